
theorem shK_lt9 {sm fe ex : Int32} {gp gc gr st yc ya ys : Nat → Int32} {n q le : Nat} (hn : n ≤ 24) (hV : claimV gp gc gr yc ya ys q n) (hL : leftV sm fe ex ya ys q) (i : Nat) (_hi : i < n) : shK sm fe ex gp gc gr st yc ya ys n q le i < 2 ^ 31 := by
  refine shK_lt (List.Perm.refl _) ⟨?_, fun k hk => ?_⟩ (mK_le hL)
  · have h1 : (finL sm fe ex gp gc gr st yc ya ys n q le).length ≤ n := by
      unfold finL
      split
      · have hr9 : ∀ (f : Nat) (T : List Nat), (rnd (pK gp gr) (rK gc gr yc ya ys q) (mK sm fe ex ya ys q) le f T).length ≤ T.length := by
          intro f
          induction f with
          | zero => intro T; exact Nat.le_refl _
          | succ f ih =>
            intro T
            unfold rnd
            cases mnl (shr (pK gp gr) (rK gc gr yc ya ys q) T (mK sm fe ex ya ys q)) T with
            | none => exact Nat.le_refl _
            | some m =>
              show (if shr (pK gp gr) (rK gc gr yc ya ys q) T (mK sm fe ex ya ys q) m < le then _ else T).length ≤ _
              split
              · exact Nat.le_trans (ih _) (List.length_filter_le _ _)
              · exact Nat.le_refl _
        exact Nat.le_trans (hr9 _ _) (tkL_len ..)
      · exact Nat.zero_le _
    omega
  · have h1 := fin_lt hk
    exact ⟨by omega, (hV k h1).2.1.2.1, (hV k h1).2.1.2.2, (hV k h1).2.2.2⟩

set_option maxHeartbeats 4000000 in
set_option maxRecDepth 100000 in
theorem c_X4_round_ok (l : Launch) {dC : Nat → ClassId} {dI : Nat → Nat → Nat} {cI cZ : ClassId} {am : Nat → Nat} {sm fe ex : Int32} {gp gc : Nat → Int32} {dy : Int32} {n : Nat} {pe gr st dl wo : Nat → Int32} {q : Nat} {yc ya yd ys tp fu sh ro : Nat → Int32} {th : Int32} {le : Nat} (hI : iwM am) (hn : n ≤ 24) (hq : q ≤ 100) (hV : claimV gp gc gr yc ya ys q n) (hL : leftV sm fe ex ya ys q) (hle : le ≤ 100000) (h1 : outN (nI le) (nI 0) (nI 100000) = 0) (h2 : tallyN st (nI 1) n = 0) (h3 : tallyN st (nI 3) n = 0) (h4 : openB ys q = false) (h5 : nI 1 ≤ leftF sm fe ex ya ys q) (h6 : q + gain (shK sm fe ex gp gc gr st yc ya ys n q le) n ≤ 100) : Met l yX4_round wsX4_round { frames := 5, cells := 0, slots := 0, locals := 116 } (va_Pc [.ref (am 0), .int (nI le)] (fun U => va_P (dC, dI) vwCl (wM cI cZ am sm fe ex gp gc dy n pe gr st dl wo q yc ya yd ys tp fu sh ro th) U.heap ∧ va_K (dC, dI) vwCl [(cI, .int), (cZ, .boolean)] U)) (va_Qi (fun r (u9 : (Nat → Int32) × (Nat → Int32) × (Nat → Int32) × (Nat → Int32)) => r = nI (gain (shK sm fe ex gp gc gr st yc ya ys n q le) n) ∧ (True)) (fun u9 t => va_P (dC, dI) vwCl (wM cI cZ am sm fe ex gp gc dy n pe gr st dl wo ((payF dy (shK sm fe ex gp gc gr st yc ya ys n q le) yc ya ys yd q n).2.2.2.2) ((payF dy (shK sm fe ex gp gc gr st yc ya ys n q le) yc ya ys yd q n).1) ((payF dy (shK sm fe ex gp gc gr st yc ya ys n q le) yc ya ys yd q n).2.1) ((payF dy (shK sm fe ex gp gc gr st yc ya ys n q le) yc ya ys yd q n).2.2.2.1) ((payF dy (shK sm fe ex gp gc gr st yc ya ys n q le) yc ya ys yd q n).2.2.1) u9.1 u9.2.1 u9.2.2.1 u9.2.2.2 (nI 0)) t.heap) (awM am)) 0 0 (awM am) := by
  refine Met.ofW (cc := cX4_round) (maxL := 5) (ret := (some .int)) (by decide) rfl ?_
  intro p e s m args below meth c s₁ B hml hv
  obtain ⟨rfl, hP, hK⟩ := hv
  have hx := B.exec
  have hb := B.bytes
  have hr := B.returns
  have hts := atoms_spec (ws := wsX4_round) B.pre
  have hown : s.vm.findClass RX4 = some m.cls := findClass_of_methodNamed B.named
  have hlocks := B.notSynchronized
  have hS : va_S (awM am) s.heap s.heap [] := va_S.rf
  have hl := lv_entry ([.ref (am 0), .int (nI le)]) (n := 5) (Nat.le_of_ble_eq_true rfl)
  rw [lg_entry_eq]
  generalize (lg_sl ([.ref (am 0), .int (nI le)]) ++ List.replicate (5 - (lg_sl ([.ref (am 0), .int (nI le)])).length) Slot.unset).toArray = ls at hl ⊢
  have hl : lv_has ls 5 [(0, .ref (am 0)), (1, .int (nI le))] := hl
  have hk135 := hts (.constant RX4 135 100000) (by decide +kernel)
  have hiX4 : ∀ w ∈ wsX40, w ∈ wsX4_round := by decide +kernel
  have hf61 := hts (.fieldLink RX4 61 "SettlementFundModel" "claims" "I") (by decide +kernel)
  have hf68 := hts (.fieldLink RX4 68 "SettlementFundModel" "payments" "I") (by decide +kernel)
  have hf44 := hts (.fieldLink RX4 44 "SettlementFundModel" "takesPart" "[Z") (by decide +kernel)
  have hf50 := hts (.fieldLink RX4 50 "SettlementFundModel" "shares" "[I") (by decide +kernel)
  have hf32 := hts (.fieldLink RX4 32 "SettlementFundModel" "paidTo" "[I") (by decide +kernel)
  have hf35 := hts (.fieldLink RX4 35 "SettlementFundModel" "amounts" "[I") (by decide +kernel)
  have hf38 := hts (.fieldLink RX4 38 "SettlementFundModel" "madeOn" "[I") (by decide +kernel)
  have hf94 := hts (.fieldLink RX4 94 "SettlementFundModel" "today" "I") (by decide +kernel)
  have hf41 := hts (.fieldLink RX4 41 "SettlementFundModel" "paymentStates" "[I") (by decide +kernel)
  refine lv_aload_n hx hb dX4_round_0 rfl (lv_at hl 0 rfl) ?_
  refine lv_iload_n hx hb dX4_round_1 rfl (lv_at hl 1 rfl) ?_
  refine lv_iconst (v := nI 0) hx hb dX4_round_2 (by decide) ?_
  refine lv_ldc hx hb hown hk135 dX4_round_3 ?_
  refine zt_i (y := nI 100000) rfl ?_
  refine k_X4_isIn l (x := nI le) (a := nI 0) (b := nI 100000) hx hb hml hown hts  gX4_round_X4_isIn ⟨Nat.le_of_ble_eq_true rfl, Nat.le_of_ble_eq_true rfl⟩ ⟨Nat.le_of_ble_eq_true rfl, Nat.le_of_ble_eq_true rfl⟩ hl.1 (Nat.le_of_ble_eq_true rfl) dX4_round_5 ?_
  refine zi_eq (tgt := 15) hx hb (by omega) dX4_round_8 (by decide) (fun c_8 => (show False by omega).elim) (fun c_8 => ?_)
  refine lv_iconst (v := nI 0) hx hb dX4_round_11 (by decide) ?_
  refine lv_goto (tgt := 16) hx hb dX4_round_12 (by decide) ?_
  refine k_X4_goes_0 l  hx hb hml hown hts hK hP gX4_round_X4_goes ⟨Nat.le_of_ble_eq_true rfl, Nat.le_of_ble_eq_true rfl⟩ ⟨Nat.le_of_ble_eq_true rfl, Nat.le_of_ble_eq_true rfl⟩ hl.1 (Nat.le_of_ble_eq_true rfl) dX4_round_16 hI (fun _ h => h) hS (fun H locs hP hS _ => ?_)
  refine zi_ne (tgt := 24) hx hb (by decide) dX4_round_19 (by decide) (fun c_19 => ?_) (fun c_19 => (show False by omega).elim)
  refine lv_aload_n hx hb dX4_round_24 rfl (lv_at hl 0 rfl) ?_
  refine lv_iload_n hx hb dX4_round_25 rfl (lv_at hl 1 rfl) ?_
  refine k_X4_lays l (le := le) (hn := hn) (hq := hq) (hV := hV) (hL := hL) (hle := hle) hx hb hml hown hts hK hP gX4_round_X4_lays ⟨Nat.le_of_ble_eq_true rfl, Nat.le_of_ble_eq_true rfl⟩ ⟨Nat.le_of_ble_eq_true rfl, Nat.le_of_ble_eq_true rfl⟩ hl.1 (Nat.le_of_ble_eq_true rfl) dX4_round_26 hI (fun _ h => h) hS (fun u9 hu9 H locs hP hS _ => ?_)
  obtain ⟨tp3, fu3, sh3, ro3⟩ := u9
  have hP : va_P (dC, dI) vwCl (wM cI cZ am sm fe ex gp gc dy n pe gr st dl wo q yc ya yd ys tp3 fu3 sh3 ro3 (nI 0)) H := hP
  have hu_26 : ∀ k, k < n → tp3 k = nI (if k ∈ finL sm fe ex gp gc gr st yc ya ys n q le then 1 else 0) ∧ (k ∈ finL sm fe ex gp gc gr st yc ya ys n q le → sh3 k = nI (shK sm fe ex gp gc gr st yc ya ys n q le k)) := hu9
  refine lv_iconst (v := nI 0) hx hb dX4_round_29 (by decide) ?_
  refine lv_istore_n (lv' := [(2, .int (nI 0)), (0, .ref (am 0)), (1, .int (nI le))]) hx hb dX4_round_30 rfl hl (by decide) rfl (fun ls hl => ?_)
  refine lv_iconst (v := nI 0) hx hb dX4_round_31 (by decide) ?_
  refine lv_istore_n (lv' := [(3, .int (nI 0)), (2, .int (nI 0)), (0, .ref (am 0)), (1, .int (nI le))]) hx hb dX4_round_32 rfl hl (by decide) rfl (fun ls hl => ?_)
  have e_1 : nI 0 = nI (gain (shK sm fe ex gp gc gr st yc ya ys n q le) 0) := rfl
  rw [e_1] at hl
  refine zl_ro (fun a9 : Nat => [(0, .ref (am 0)), (1, .int (nI le)), (2, .int (nI (gain (shK sm fe ex gp gc gr st yc ya ys n q le) a9))), (3, .int (nI a9))]) (fun a9 : Nat => a9 ≤ n) (fun a9 : Nat => n - a9) 0 (Nat.zero_le _) (lv_sub hl [2, 3, 1, 0] rfl) ?_
  intro a9 hi_33 ih_33 ls hl
  obtain ⟨i, rfl⟩ : ∃ z, z = a9 := ⟨_, rfl⟩
  have hi_33 : i ≤ n := hi_33
  have hl : lv_has ls 5 [(0, .ref (am 0)), (1, .int (nI le)), (2, .int (nI (gain (shK sm fe ex gp gc gr st yc ya ys n q le) i))), (3, .int (nI i))] := hl
  have hgl := gain_le (shK sm fe ex gp gc gr st yc ya ys n q le) i
  refine lv_iload_n hx hb dX4_round_33 rfl (lv_at hl 3 rfl) ?_
  refine lv_aload_n hx hb dX4_round_34 rfl (lv_at hl 0 rfl) ?_
  refine gM_0_6 hx hb hts hiX4 hown hK hP hf61 dX4_round_35 ?_
  refine zb_ge (tgt := 73) hx hb (by omega) (by omega) dX4_round_38 (by decide) (fun c_38 => ?_) (fun c_38 => ?_)
  · have hgn := gain_le (shK sm fe ex gp gc gr st yc ya ys n q le) n
    have htl := tallyN_le st (nI 1) n
    have htl3 := tallyN_le st (nI 3) n
    refine lv_aload_n hx hb dX4_round_73 rfl (lv_at hl 0 rfl) ?_
    refine lv_iconst (v := nI 1) hx hb dX4_round_74 (by decide) ?_
    refine k_X4_countOf l (w := nI 1) (hn := hn) hx hb hml hown hts hK hP gX4_round_X4_countOf ⟨Nat.le_of_ble_eq_true rfl, Nat.le_of_ble_eq_true rfl⟩ ⟨Nat.le_of_ble_eq_true rfl, Nat.le_of_ble_eq_true rfl⟩ hl.1 (Nat.le_of_ble_eq_true rfl) dX4_round_75 ?_
    refine lv_aload_n hx hb dX4_round_78 rfl (lv_at hl 0 rfl) ?_
    refine lv_iconst (v := nI 3) hx hb dX4_round_79 (by decide) ?_
    refine k_X4_countOf l (w := nI 3) (hn := hn) hx hb hml hown hts hK hP gX4_round_X4_countOf ⟨Nat.le_of_ble_eq_true rfl, Nat.le_of_ble_eq_true rfl⟩ ⟨Nat.le_of_ble_eq_true rfl, Nat.le_of_ble_eq_true rfl⟩ hl.1 (Nat.le_of_ble_eq_true rfl) dX4_round_80 ?_
    refine lv_iadd hx hb dX4_round_83 ?_
    refine zt_i (y := nI ((tallyN st (nI 1) n) + (tallyN st (nI 3) n))) (nI_add _ _) ?_
    refine zi_gt (tgt := 102) hx hb (by omega) dX4_round_84 (by decide) (fun c_84 => (show False by omega).elim) (fun c_84 => ?_)
    refine lv_aload_n hx hb dX4_round_87 rfl (lv_at hl 0 rfl) ?_
    refine k_X4_isOpen l (hq := hq) hx hb hml hown hts hK hP gX4_round_X4_isOpen ⟨Nat.le_of_ble_eq_true rfl, Nat.le_of_ble_eq_true rfl⟩ ⟨Nat.le_of_ble_eq_true rfl, Nat.le_of_ble_eq_true rfl⟩ hl.1 (Nat.le_of_ble_eq_true rfl) dX4_round_88 ?_
    refine zi_ne (tgt := 102) hx hb (by split <;> decide) dX4_round_91 (by decide) (fun c_91 => (show False by rw [h4] at c_91; exact c_91 rfl).elim) (fun c_91 => ?_)
    refine lv_aload_n hx hb dX4_round_94 rfl (lv_at hl 0 rfl) ?_
    refine k_X4_left l (hq := hq) hx hb hml hown hts hK hP gX4_round_X4_left ⟨Nat.le_of_ble_eq_true rfl, Nat.le_of_ble_eq_true rfl⟩ ⟨Nat.le_of_ble_eq_true rfl, Nat.le_of_ble_eq_true rfl⟩ hl.1 (Nat.le_of_ble_eq_true rfl) dX4_round_95 ?_
    refine lv_iconst (v := nI 1) hx hb dX4_round_98 (by decide) ?_
    refine lv_icmp_ge (tgt := 106) hx hb dX4_round_99 (by decide) (fun c_99 => ?_) (fun c_99 => (show False by exact c_99 h5).elim)
    refine lv_iconst (v := nI 0) hx hb dX4_round_106 (by decide) ?_
    refine lv_istore_n (lv' := [(3, .int (nI 0)), (0, .ref (am 0)), (1, .int (nI le)), (2, .int (nI (gain (shK sm fe ex gp gc gr st yc ya ys n q le) i)))]) hx hb dX4_round_107 rfl hl (by decide) rfl (fun ls hl => ?_)
    refine lv_aload_n hx hb dX4_round_108 rfl (lv_at hl 1 rfl) ?_
    refine lv_iload_n hx hb dX4_round_109 rfl (lv_at hl 0 rfl) ?_
    refine zi_ne (tgt := 124) hx hb (by decide) dX4_round_110 (by decide) (fun c_110 => (show False by omega).elim) (fun c_110 => ?_)
    refine lv_aload_n hx hb dX4_round_113 rfl (lv_at hl 1 rfl) ?_
    refine gM_0_12 hx hb hts hiX4 hown hK hP hf68 dX4_round_114 ?_
    refine lv_iload_n hx hb dX4_round_117 rfl (lv_at hl 3 rfl) ?_
    refine zt_i (y := nI (gain (shK sm fe ex gp gc gr st yc ya ys n q le) n)) (by rw [show i = n by omega]) ?_
    refine lv_iadd hx hb dX4_round_118 ?_
    refine zt_i (y := nI (q + (gain (shK sm fe ex gp gc gr st yc ya ys n q le) n))) (nI_add _ _) ?_
    refine lv_bipush (v := nI 100) hx hb dX4_round_119 (by decide) ?_
    refine zb_le (tgt := 128) hx hb (by omega) (by decide) dX4_round_121 (by decide) (fun c_121 => ?_) (fun c_121 => (show False by omega).elim)
    refine lv_iconst (v := nI 0) hx hb dX4_round_128 (by decide) ?_
    refine k_X4_goes_0 l  hx hb hml hown hts hK hP gX4_round_X4_goes ⟨Nat.le_of_ble_eq_true rfl, Nat.le_of_ble_eq_true rfl⟩ ⟨Nat.le_of_ble_eq_true rfl, Nat.le_of_ble_eq_true rfl⟩ hl.1 (Nat.le_of_ble_eq_true rfl) dX4_round_129 hI (fun _ h => h) hS (fun H locs hP hS _ => ?_)
    refine zi_ne (tgt := 137) hx hb (by decide) dX4_round_132 (by decide) (fun c_132 => ?_) (fun c_132 => (show False by omega).elim)
    refine lv_iconst (v := nI 0) hx hb dX4_round_137 (by decide) ?_
    refine lv_istore (lv' := [(4, .int (nI 0)), (3, .int (nI 0)), (0, .ref (am 0)), (1, .int (nI le)), (2, .int (nI (gain (shK sm fe ex gp gc gr st yc ya ys n q le) i)))]) hx hb dX4_round_138 hl (by decide) rfl (fun ls hl => ?_)
    have e_2 : nI (gain (shK sm fe ex gp gc gr st yc ya ys n q le) i) = nI (gain (shK sm fe ex gp gc gr st yc ya ys n q le) n) := by rw [show i = n by omega]
    rw [e_2] at hl
    have e_3 : yc = (payF dy (shK sm fe ex gp gc gr st yc ya ys n q le) yc ya ys yd q 0).1 := rfl
    rw [e_3] at hP
    have e_4 : ya = (payF dy (shK sm fe ex gp gc gr st yc ya ys n q le) yc ya ys yd q 0).2.1 := rfl
    rw [e_4] at hP
    have e_5 : ys = (payF dy (shK sm fe ex gp gc gr st yc ya ys n q le) yc ya ys yd q 0).2.2.1 := rfl
    rw [e_5] at hP
    have e_6 : yd = (payF dy (shK sm fe ex gp gc gr st yc ya ys n q le) yc ya ys yd q 0).2.2.2.1 := rfl
    rw [e_6] at hP
    have e_7 : q = (payF dy (shK sm fe ex gp gc gr st yc ya ys n q le) yc ya ys yd q 0).2.2.2.2 := rfl
    rw [e_7] at hP
    refine zl_rw (fun a9 : Nat => wM cI cZ am sm fe ex gp gc dy n pe gr st dl wo ((payF dy (shK sm fe ex gp gc gr st yc ya ys n q le) yc ya ys yd q a9).2.2.2.2) ((payF dy (shK sm fe ex gp gc gr st yc ya ys n q le) yc ya ys yd q a9).1) ((payF dy (shK sm fe ex gp gc gr st yc ya ys n q le) yc ya ys yd q a9).2.1) ((payF dy (shK sm fe ex gp gc gr st yc ya ys n q le) yc ya ys yd q a9).2.2.2.1) ((payF dy (shK sm fe ex gp gc gr st yc ya ys n q le) yc ya ys yd q a9).2.2.1) tp3 fu3 sh3 ro3 (nI 0)) (fun a9 : Nat => [(0, .ref (am 0)), (1, .int (nI le)), (2, .int (nI (gain (shK sm fe ex gp gc gr st yc ya ys n q le) n))), (4, .int (nI a9))]) (fun a9 : Nat => a9 ≤ n) (fun a9 : Nat => n - a9) 0 (Nat.zero_le _) hP hS (lv_sub hl [2, 3, 4, 0] rfl) ?_
    intro a9 hi_140 ih_140 H locs hP hS ls hl
    obtain ⟨i, rfl⟩ : ∃ z, z = a9 := ⟨_, rfl⟩
    have hi_140 : i ≤ n := hi_140
    have hl : lv_has ls 5 [(0, .ref (am 0)), (1, .int (nI le)), (2, .int (nI (gain (shK sm fe ex gp gc gr st yc ya ys n q le) n))), (4, .int (nI i))] := hl
    have hP : va_P (dC, dI) vwCl (wM cI cZ am sm fe ex gp gc dy n pe gr st dl wo ((payF dy (shK sm fe ex gp gc gr st yc ya ys n q le) yc ya ys yd q i).2.2.2.2) ((payF dy (shK sm fe ex gp gc gr st yc ya ys n q le) yc ya ys yd q i).1) ((payF dy (shK sm fe ex gp gc gr st yc ya ys n q le) yc ya ys yd q i).2.1) ((payF dy (shK sm fe ex gp gc gr st yc ya ys n q le) yc ya ys yd q i).2.2.2.1) ((payF dy (shK sm fe ex gp gc gr st yc ya ys n q le) yc ya ys yd q i).2.2.1) tp3 fu3 sh3 ro3 (nI 0)) H := hP
    refine lv_iload hx hb dX4_round_140 (lv_at hl 3 rfl) ?_
    refine lv_aload_n hx hb dX4_round_142 rfl (lv_at hl 0 rfl) ?_
    refine gM_0_6 hx hb hts hiX4 hown hK hP hf61 dX4_round_143 ?_
    refine zb_ge (tgt := 235) hx hb (by omega) (by omega) dX4_round_146 (by decide) (fun c_146 => ?_) (fun c_146 => ?_)
    · have e_8 : (payF dy (shK sm fe ex gp gc gr st yc ya ys n q le) yc ya ys yd q i).1 = (payF dy (shK sm fe ex gp gc gr st yc ya ys n q le) yc ya ys yd q n).1 := by rw [show i = n by omega]
      rw [e_8] at hP
      have e_9 : (payF dy (shK sm fe ex gp gc gr st yc ya ys n q le) yc ya ys yd q i).2.1 = (payF dy (shK sm fe ex gp gc gr st yc ya ys n q le) yc ya ys yd q n).2.1 := by rw [show i = n by omega]
      rw [e_9] at hP
      have e_10 : (payF dy (shK sm fe ex gp gc gr st yc ya ys n q le) yc ya ys yd q i).2.2.1 = (payF dy (shK sm fe ex gp gc gr st yc ya ys n q le) yc ya ys yd q n).2.2.1 := by rw [show i = n by omega]
      rw [e_10] at hP
      have e_11 : (payF dy (shK sm fe ex gp gc gr st yc ya ys n q le) yc ya ys yd q i).2.2.2.1 = (payF dy (shK sm fe ex gp gc gr st yc ya ys n q le) yc ya ys yd q n).2.2.2.1 := by rw [show i = n by omega]
      rw [e_11] at hP
      have e_12 : (payF dy (shK sm fe ex gp gc gr st yc ya ys n q le) yc ya ys yd q i).2.2.2.2 = (payF dy (shK sm fe ex gp gc gr st yc ya ys n q le) yc ya ys yd q n).2.2.2.2 := by rw [show i = n by omega]
      rw [e_12] at hP
      refine lv_iload_n hx hb dX4_round_235 rfl (lv_at hl 2 rfl) ?_
      exact W.iret (v := nI (gain (shK sm fe ex gp gc gr st yc ya ys n q le) n)) hx hb hr (fun t ht hW => ⟨⟨nI (gain (shK sm fe ex gp gc gr st yc ya ys n q le) n), (tp3, fu3, sh3, ro3), rfl, ⟨rfl, trivial⟩, by (try dsimp only); rw [ht]; exact hP⟩, hS.F ht⟩) hS.2.2 dX4_round_236
    · have hsk : shK sm fe ex gp gc gr st yc ya ys n q le i < 2 ^ 31 := shK_lt9 hn hV hL i (by omega)
      refine lv_aload_n hx hb dX4_round_149 rfl (lv_at hl 0 rfl) ?_
      refine gM_0_17 hx hb hts hiX4 hown hK hP hf44 dX4_round_150 ?_
      refine lv_iload hx hb dX4_round_153 (lv_at hl 3 rfl) ?_
      refine lM_12 hx hb hK hP (by omega) dX4_round_155 ?_
      refine zt_i (y := nI (if i ∈ finL sm fe ex gp gc gr st yc ya ys n q le then 1 else 0)) ((hu_26 i (by omega)).1) ?_
      refine zi_eq (tgt := 229) hx hb (by split <;> decide) dX4_round_156 (by decide) (fun c_156 => ?_) (fun c_156 => ?_)
      · have h9 : shK sm fe ex gp gc gr st yc ya ys n q le i = 0 := shK_n (zz_ifq c_156)
        refine lv_iinc (v := nI (i + 1)) (lv' := [(4, .int (nI (i + 1))), (0, .ref (am 0)), (1, .int (nI le)), (2, .int (nI (gain (shK sm fe ex gp gc gr st yc ya ys n q le) n)))]) hx hb dX4_round_229 hl (k := 3) rfl (zz_inc _) (by decide) rfl (fun ls hl => ?_)
        refine lv_goto (tgt := 140) hx hb dX4_round_232 (by decide) ?_
        have e_13 : (payF dy (shK sm fe ex gp gc gr st yc ya ys n q le) yc ya ys yd q i).1 = (payF dy (shK sm fe ex gp gc gr st yc ya ys n q le) yc ya ys yd q (i + 1)).1 := by rw [payF_n h9]
        rw [e_13] at hP
        have e_14 : (payF dy (shK sm fe ex gp gc gr st yc ya ys n q le) yc ya ys yd q i).2.1 = (payF dy (shK sm fe ex gp gc gr st yc ya ys n q le) yc ya ys yd q (i + 1)).2.1 := by rw [payF_n h9]
        rw [e_14] at hP
        have e_15 : (payF dy (shK sm fe ex gp gc gr st yc ya ys n q le) yc ya ys yd q i).2.2.1 = (payF dy (shK sm fe ex gp gc gr st yc ya ys n q le) yc ya ys yd q (i + 1)).2.2.1 := by rw [payF_n h9]
        rw [e_15] at hP
        have e_16 : (payF dy (shK sm fe ex gp gc gr st yc ya ys n q le) yc ya ys yd q i).2.2.2.1 = (payF dy (shK sm fe ex gp gc gr st yc ya ys n q le) yc ya ys yd q (i + 1)).2.2.2.1 := by rw [payF_n h9]
        rw [e_16] at hP
        have e_17 : (payF dy (shK sm fe ex gp gc gr st yc ya ys n q le) yc ya ys yd q i).2.2.2.2 = (payF dy (shK sm fe ex gp gc gr st yc ya ys n q le) yc ya ys yd q (i + 1)).2.2.2.2 := by rw [payF_n h9]
        rw [e_17] at hP
        exact ih_140 (i + 1) (by omega) (by omega) _ _ hP hS ls (lv_sub hl [1, 2, 3, 0] rfl)
      · refine lv_aload_n hx hb dX4_round_159 rfl (lv_at hl 0 rfl) ?_
        refine gM_0_19 hx hb hts hiX4 hown hK hP hf50 dX4_round_160 ?_
        refine lv_iload hx hb dX4_round_163 (lv_at hl 3 rfl) ?_
        refine lM_14 hx hb hK hP (by omega) dX4_round_165 ?_
        refine zt_i (y := nI (shK sm fe ex gp gc gr st yc ya ys n q le i)) ((hu_26 i (by omega)).2 (zz_ifp c_156)) ?_
        refine zi_le (tgt := 229) hx hb (hsk) dX4_round_166 (by decide) (fun c_166 => ?_) (fun c_166 => ?_)
        · have h9 : shK sm fe ex gp gc gr st yc ya ys n q le i = 0 := c_166
          refine lv_iinc (v := nI (i + 1)) (lv' := [(4, .int (nI (i + 1))), (0, .ref (am 0)), (1, .int (nI le)), (2, .int (nI (gain (shK sm fe ex gp gc gr st yc ya ys n q le) n)))]) hx hb dX4_round_229 hl (k := 3) rfl (zz_inc _) (by decide) rfl (fun ls hl => ?_)
          refine lv_goto (tgt := 140) hx hb dX4_round_232 (by decide) ?_
          have e_18 : (payF dy (shK sm fe ex gp gc gr st yc ya ys n q le) yc ya ys yd q i).1 = (payF dy (shK sm fe ex gp gc gr st yc ya ys n q le) yc ya ys yd q (i + 1)).1 := by rw [payF_n h9]
          rw [e_18] at hP
          have e_19 : (payF dy (shK sm fe ex gp gc gr st yc ya ys n q le) yc ya ys yd q i).2.1 = (payF dy (shK sm fe ex gp gc gr st yc ya ys n q le) yc ya ys yd q (i + 1)).2.1 := by rw [payF_n h9]
          rw [e_19] at hP
          have e_20 : (payF dy (shK sm fe ex gp gc gr st yc ya ys n q le) yc ya ys yd q i).2.2.1 = (payF dy (shK sm fe ex gp gc gr st yc ya ys n q le) yc ya ys yd q (i + 1)).2.2.1 := by rw [payF_n h9]
          rw [e_20] at hP
          have e_21 : (payF dy (shK sm fe ex gp gc gr st yc ya ys n q le) yc ya ys yd q i).2.2.2.1 = (payF dy (shK sm fe ex gp gc gr st yc ya ys n q le) yc ya ys yd q (i + 1)).2.2.2.1 := by rw [payF_n h9]
          rw [e_21] at hP
          have e_22 : (payF dy (shK sm fe ex gp gc gr st yc ya ys n q le) yc ya ys yd q i).2.2.2.2 = (payF dy (shK sm fe ex gp gc gr st yc ya ys n q le) yc ya ys yd q (i + 1)).2.2.2.2 := by rw [payF_n h9]
          rw [e_22] at hP
          exact ih_140 (i + 1) (by omega) (by omega) _ _ hP hS ls (lv_sub hl [1, 2, 3, 0] rfl)
        · have h9 : 0 < shK sm fe ex gp gc gr st yc ya ys n q le i := c_166
          have hg1 := gain_mono (shK sm fe ex gp gc gr st yc ya ys n q le) (show i + 1 ≤ n by omega)
          have hg2 := payF_q dy (shK sm fe ex gp gc gr st yc ya ys n q le) yc ya ys yd q i
          rw [gain_s, if_pos h9] at hg1
          refine lv_aload_n hx hb dX4_round_169 rfl (lv_at hl 0 rfl) ?_
          refine gM_0_13 hx hb hts hiX4 hown hK hP hf32 dX4_round_170 ?_
          refine lv_aload_n hx hb dX4_round_173 rfl (lv_at hl 0 rfl) ?_
          refine gM_0_12 hx hb hts hiX4 hown hK hP hf68 dX4_round_174 ?_
          refine lv_iload hx hb dX4_round_177 (lv_at hl 3 rfl) ?_
          refine sM_8 hx hb hK hP hI (fun _ h => h) hS (by omega) dX4_round_179 (fun H locs hP hS => ?_)
          refine lv_aload_n hx hb dX4_round_180 rfl (lv_at hl 0 rfl) ?_
          refine gM_0_14 hx hb hts hiX4 hown hK hP hf35 dX4_round_181 ?_
          refine lv_aload_n hx hb dX4_round_184 rfl (lv_at hl 0 rfl) ?_
          refine gM_0_12 hx hb hts hiX4 hown hK hP hf68 dX4_round_185 ?_
          refine lv_aload_n hx hb dX4_round_188 rfl (lv_at hl 0 rfl) ?_
          refine gM_0_19 hx hb hts hiX4 hown hK hP hf50 dX4_round_189 ?_
          refine lv_iload hx hb dX4_round_192 (lv_at hl 3 rfl) ?_
          refine lM_14 hx hb hK hP (by omega) dX4_round_194 ?_
          refine zt_i (y := nI (shK sm fe ex gp gc gr st yc ya ys n q le i)) ((hu_26 i (by omega)).2 (zz_ifp c_156)) ?_
          refine sM_9 hx hb hK hP hI (fun _ h => h) hS (by omega) dX4_round_195 (fun H locs hP hS => ?_)
          refine lv_aload_n hx hb dX4_round_196 rfl (lv_at hl 0 rfl) ?_
          refine gM_0_15 hx hb hts hiX4 hown hK hP hf38 dX4_round_197 ?_
          refine lv_aload_n hx hb dX4_round_200 rfl (lv_at hl 0 rfl) ?_
          refine gM_0_12 hx hb hts hiX4 hown hK hP hf68 dX4_round_201 ?_
          refine lv_aload_n hx hb dX4_round_204 rfl (lv_at hl 0 rfl) ?_
          refine gM_0_5 hx hb hts hiX4 hown hK hP hf94 dX4_round_205 ?_
          refine sM_10 hx hb hK hP hI (fun _ h => h) hS (by omega) dX4_round_208 (fun H locs hP hS => ?_)
          refine lv_aload_n hx hb dX4_round_209 rfl (lv_at hl 0 rfl) ?_
          refine gM_0_16 hx hb hts hiX4 hown hK hP hf41 dX4_round_210 ?_
          refine lv_aload_n hx hb dX4_round_213 rfl (lv_at hl 0 rfl) ?_
          refine gM_0_12 hx hb hts hiX4 hown hK hP hf68 dX4_round_214 ?_
          refine lv_iconst (v := nI 0) hx hb dX4_round_217 (by decide) ?_
          refine sM_11 hx hb hK hP hI (fun _ h => h) hS (by omega) dX4_round_218 (fun H locs hP hS => ?_)
          refine lv_aload_n hx hb dX4_round_219 rfl (lv_at hl 0 rfl) ?_
          refine lv_dup hx hb dX4_round_220 rfl ?_
          refine gM_0_12 hx hb hts hiX4 hown hK hP hf68 dX4_round_221 ?_
          refine lv_iconst (v := nI 1) hx hb dX4_round_224 (by decide) ?_
          refine lv_iadd hx hb dX4_round_225 ?_
          refine zt_i (y := nI (((payF dy (shK sm fe ex gp gc gr st yc ya ys n q le) yc ya ys yd q i).2.2.2.2) + 1)) (nI_add _ _) ?_
          refine uM_0_12 hx hb hts hiX4 hown hK hP hf68 hI (fun _ h => h) hS dX4_round_226 (fun H locs hP hS => ?_)
          skip
          refine lv_iinc (v := nI (i + 1)) (lv' := [(4, .int (nI (i + 1))), (0, .ref (am 0)), (1, .int (nI le)), (2, .int (nI (gain (shK sm fe ex gp gc gr st yc ya ys n q le) n)))]) hx hb dX4_round_229 hl (k := 3) rfl (zz_inc _) (by decide) rfl (fun ls hl => ?_)
          refine lv_goto (tgt := 140) hx hb dX4_round_232 (by decide) ?_
          have e_23 : upd ((payF dy (shK sm fe ex gp gc gr st yc ya ys n q le) yc ya ys yd q i).1) ((payF dy (shK sm fe ex gp gc gr st yc ya ys n q le) yc ya ys yd q i).2.2.2.2) (nI i) = (payF dy (shK sm fe ex gp gc gr st yc ya ys n q le) yc ya ys yd q (i + 1)).1 := by rw [payF_y h9]
          rw [e_23] at hP
          have e_24 : upd ((payF dy (shK sm fe ex gp gc gr st yc ya ys n q le) yc ya ys yd q i).2.1) ((payF dy (shK sm fe ex gp gc gr st yc ya ys n q le) yc ya ys yd q i).2.2.2.2) (nI (shK sm fe ex gp gc gr st yc ya ys n q le i)) = (payF dy (shK sm fe ex gp gc gr st yc ya ys n q le) yc ya ys yd q (i + 1)).2.1 := by rw [payF_y h9]
          rw [e_24] at hP
          have e_25 : upd ((payF dy (shK sm fe ex gp gc gr st yc ya ys n q le) yc ya ys yd q i).2.2.1) ((payF dy (shK sm fe ex gp gc gr st yc ya ys n q le) yc ya ys yd q i).2.2.2.2) (nI 0) = (payF dy (shK sm fe ex gp gc gr st yc ya ys n q le) yc ya ys yd q (i + 1)).2.2.1 := by rw [payF_y h9]
          rw [e_25] at hP
          have e_26 : upd ((payF dy (shK sm fe ex gp gc gr st yc ya ys n q le) yc ya ys yd q i).2.2.2.1) ((payF dy (shK sm fe ex gp gc gr st yc ya ys n q le) yc ya ys yd q i).2.2.2.2) dy = (payF dy (shK sm fe ex gp gc gr st yc ya ys n q le) yc ya ys yd q (i + 1)).2.2.2.1 := by rw [payF_y h9]
          rw [e_26] at hP
          have e_27 : ((payF dy (shK sm fe ex gp gc gr st yc ya ys n q le) yc ya ys yd q i).2.2.2.2) + 1 = (payF dy (shK sm fe ex gp gc gr st yc ya ys n q le) yc ya ys yd q (i + 1)).2.2.2.2 := by rw [payF_y h9]
          rw [e_27] at hP
          exact ih_140 (i + 1) (by omega) (by omega) _ _ hP hS ls (lv_sub hl [1, 2, 3, 0] rfl)
  · have hsk : shK sm fe ex gp gc gr st yc ya ys n q le i < 2 ^ 31 := shK_lt9 hn hV hL i (by omega)
    refine lv_iload_n hx hb dX4_round_41 rfl (lv_at hl 2 rfl) ?_
    refine lv_aload_n hx hb dX4_round_42 rfl (lv_at hl 0 rfl) ?_
    refine gM_0_17 hx hb hts hiX4 hown hK hP hf44 dX4_round_43 ?_
    refine lv_iload_n hx hb dX4_round_46 rfl (lv_at hl 3 rfl) ?_
    refine lM_12 hx hb hK hP (by omega) dX4_round_47 ?_
    refine zt_i (y := nI (if i ∈ finL sm fe ex gp gc gr st yc ya ys n q le then 1 else 0)) ((hu_26 i (by omega)).1) ?_
    refine zi_eq (tgt := 64) hx hb (by split <;> decide) dX4_round_48 (by decide) (fun c_48 => ?_) (fun c_48 => ?_)
    · refine lv_iconst (v := nI 0) hx hb dX4_round_64 (by decide) ?_
      refine lv_iadd hx hb dX4_round_65 ?_
      refine zt_i (y := nI ((gain (shK sm fe ex gp gc gr st yc ya ys n q le) i) + 0)) (nI_add _ _) ?_
      refine lv_istore_n (lv' := [(2, .int (nI ((gain (shK sm fe ex gp gc gr st yc ya ys n q le) i) + 0))), (0, .ref (am 0)), (1, .int (nI le)), (3, .int (nI i))]) hx hb dX4_round_66 rfl hl (by decide) rfl (fun ls hl => ?_)
      refine lv_iinc (v := nI (i + 1)) (lv' := [(3, .int (nI (i + 1))), (2, .int (nI ((gain (shK sm fe ex gp gc gr st yc ya ys n q le) i) + 0))), (0, .ref (am 0)), (1, .int (nI le))]) hx hb dX4_round_67 hl (k := 3) rfl (zz_inc _) (by decide) rfl (fun ls hl => ?_)
      refine lv_goto (tgt := 33) hx hb dX4_round_70 (by decide) ?_
      have e_28 : nI ((gain (shK sm fe ex gp gc gr st yc ya ys n q le) i) + 0) = nI (gain (shK sm fe ex gp gc gr st yc ya ys n q le) (i + 1)) := by rw [gain_s, shK_n (zz_ifq c_48)]; rfl
      rw [e_28] at hl
      exact ih_33 (i + 1) (by omega) (by omega) ls (lv_sub hl [2, 3, 1, 0] rfl)
    · refine lv_aload_n hx hb dX4_round_51 rfl (lv_at hl 0 rfl) ?_
      refine gM_0_19 hx hb hts hiX4 hown hK hP hf50 dX4_round_52 ?_
      refine lv_iload_n hx hb dX4_round_55 rfl (lv_at hl 3 rfl) ?_
      refine lM_14 hx hb hK hP (by omega) dX4_round_56 ?_
      refine zt_i (y := nI (shK sm fe ex gp gc gr st yc ya ys n q le i)) ((hu_26 i (by omega)).2 (zz_ifp c_48)) ?_
      refine zi_le (tgt := 64) hx hb (hsk) dX4_round_57 (by decide) (fun c_57 => ?_) (fun c_57 => ?_)
      · refine lv_iconst (v := nI 0) hx hb dX4_round_64 (by decide) ?_
        refine lv_iadd hx hb dX4_round_65 ?_
        refine zt_i (y := nI ((gain (shK sm fe ex gp gc gr st yc ya ys n q le) i) + 0)) (nI_add _ _) ?_
        refine lv_istore_n (lv' := [(2, .int (nI ((gain (shK sm fe ex gp gc gr st yc ya ys n q le) i) + 0))), (0, .ref (am 0)), (1, .int (nI le)), (3, .int (nI i))]) hx hb dX4_round_66 rfl hl (by decide) rfl (fun ls hl => ?_)
        refine lv_iinc (v := nI (i + 1)) (lv' := [(3, .int (nI (i + 1))), (2, .int (nI ((gain (shK sm fe ex gp gc gr st yc ya ys n q le) i) + 0))), (0, .ref (am 0)), (1, .int (nI le))]) hx hb dX4_round_67 hl (k := 3) rfl (zz_inc _) (by decide) rfl (fun ls hl => ?_)
        refine lv_goto (tgt := 33) hx hb dX4_round_70 (by decide) ?_
        have e_29 : nI ((gain (shK sm fe ex gp gc gr st yc ya ys n q le) i) + 0) = nI (gain (shK sm fe ex gp gc gr st yc ya ys n q le) (i + 1)) := by rw [gain_s, c_57]; rfl
        rw [e_29] at hl
        exact ih_33 (i + 1) (by omega) (by omega) ls (lv_sub hl [2, 3, 1, 0] rfl)
      · refine lv_iconst (v := nI 1) hx hb dX4_round_60 (by decide) ?_
        refine lv_goto (tgt := 65) hx hb dX4_round_61 (by decide) ?_
        refine lv_iadd hx hb dX4_round_65 ?_
        refine zt_i (y := nI ((gain (shK sm fe ex gp gc gr st yc ya ys n q le) i) + 1)) (nI_add _ _) ?_
        refine lv_istore_n (lv' := [(2, .int (nI ((gain (shK sm fe ex gp gc gr st yc ya ys n q le) i) + 1))), (0, .ref (am 0)), (1, .int (nI le)), (3, .int (nI i))]) hx hb dX4_round_66 rfl hl (by decide) rfl (fun ls hl => ?_)
        refine lv_iinc (v := nI (i + 1)) (lv' := [(3, .int (nI (i + 1))), (2, .int (nI ((gain (shK sm fe ex gp gc gr st yc ya ys n q le) i) + 1))), (0, .ref (am 0)), (1, .int (nI le))]) hx hb dX4_round_67 hl (k := 3) rfl (zz_inc _) (by decide) rfl (fun ls hl => ?_)
        refine lv_goto (tgt := 33) hx hb dX4_round_70 (by decide) ?_
        have e_30 : nI ((gain (shK sm fe ex gp gc gr st yc ya ys n q le) i) + 1) = nI (gain (shK sm fe ex gp gc gr st yc ya ys n q le) (i + 1)) := by rw [gain_s, if_pos c_57]
        rw [e_30] at hl
        exact ih_33 (i + 1) (by omega) (by omega) ls (lv_sub hl [2, 3, 1, 0] rfl)
section
variable {p : Program} {e : Env} {R : Room} {s : State} {m : MethodId} {args : Array Value} {below : List Frame} {meth : Method} {c : Code} {H : Heap} {locs : List Loc} {cells slots : Nat} {Q : State → Prop} {cc : ByteArray} {pc : Nat} {ls : Array Slot} {rest : List Value} {own : String} {index nL : Nat} {Ts : List Cond} {H0 : Heap} {A0 : Nat → Prop}
theorem k_X4_round_ok (l : Launch) {dC : Nat → ClassId} {dI : Nat → Nat → Nat} {cI cZ : ClassId} {am : Nat → Nat} {sm fe ex : Int32} {gp gc : Nat → Int32} {dy : Int32} {n : Nat} {pe gr st dl wo : Nat → Int32} {q : Nat} {yc ya yd ys tp fu sh ro : Nat → Int32} {th : Int32} {le : Nat} (hn : n ≤ 24) (hq : q ≤ 100) (hV : claimV gp gc gr yc ya ys q n) (hL : leftV sm fe ex ya ys q) (hle : le ≤ 100000) (h1 : outN (nI le) (nI 0) (nI 100000) = 0) (h2 : tallyN st (nI 1) n = 0) (h3 : tallyN st (nI 3) n = 0) (h4 : openB ys q = false) (h5 : nI 1 ≤ leftF sm fe ex ya ys q) (h6 : q + gain (shK sm fe ex gp gc gr st yc ya ys n q le) n ≤ 100) (hx : p.tables.exec = Jvm.exec) (hb : c.code = cc) (hml : c.maxLocals = nL) (hown : s.vm.findClass own = some m.cls) (hts : ∀ w ∈ Ts, w.before args s = true) (hK : va_K (dC, dI) vwCl [(cI, .int), (cZ, .boolean)] s) (hP : va_P (dC, dI) vwCl (wM cI cZ am sm fe ex gp gc dy n pe gr st dl wo q yc ya yd ys tp fu sh ro th) H) (hg9 : GoodIn Ts (wsV own index RX4 yX4_round wsX4_round)) (hR9 : 5 + 1 ≤ R.frames ∧ 8 + (5 + 11) + 116 ≤ R.locals) (hc9 : cells ≤ R.cells ∧ slots ≤ R.slots) (hl9 : ls.size = nL) (hw9 : (rest.map fun v => v.category).sum ≤ 8) (hdg : decode cc pc = .ok (.invokevirtual index, 3)) (hI : iwM am) (hA : ∀ x, awM am x → A0 x) (hS : va_S A0 H0 H locs) (kk : ∀ (u9 : (Nat → Int32) × (Nat → Int32) × (Nat → Int32) × (Nat → Int32)), (True) → ∀ (H1 : Heap) (locs1 : List Loc), va_P (dC, dI) vwCl (wM cI cZ am sm fe ex gp gc dy n pe gr st dl wo ((payF dy (shK sm fe ex gp gc gr st yc ya ys n q le) yc ya ys yd q n).2.2.2.2) ((payF dy (shK sm fe ex gp gc gr st yc ya ys n q le) yc ya ys yd q n).1) ((payF dy (shK sm fe ex gp gc gr st yc ya ys n q le) yc ya ys yd q n).2.1) ((payF dy (shK sm fe ex gp gc gr st yc ya ys n q le) yc ya ys yd q n).2.2.2.1) ((payF dy (shK sm fe ex gp gc gr st yc ya ys n q le) yc ya ys yd q n).2.2.1) u9.1 u9.2.1 u9.2.2.1 u9.2.2.2 (nI 0)) H1 → va_S A0 H0 H1 locs1 → (∀ q : Nat, q < H.size → ¬ awM am q → H1[q]? = H[q]?) → W p l e R s m args below meth c H1 locs1 cells slots Q (F0 m (pc + 3) ls (.int (nI (gain (shK sm fe ex gp gc gr st yc ya ys n q le) n)) :: rest))) : W p l e R s m args below meth c H locs cells slots Q (F0 m pc ls (.int (nI le) :: .ref (am 0) :: rest)) := va_calli (va_runV (As := [.int (nI le)]) (rest := rest) ⟨hx, hb, hml, hown, hts⟩ (c_X4_round_ok (dC := dC) (dI := dI) (cI := cI) (cZ := cZ) (am := am) (sm := sm) (fe := fe) (ex := ex) (gp := gp) (gc := gc) (dy := dy) (n := n) (pe := pe) (gr := gr) (st := st) (dl := dl) (wo := wo) (q := q) (yc := yc) (ya := ya) (yd := yd) (ys := ys) (tp := tp) (fu := fu) (sh := sh) (ro := ro) (th := th) (le := le) l hI hn hq hV hL hle h1 h2 h3 h4 h5 h6) (cwV 1 hts hg9 rfl rfl rfl (by decide +kernel) hR9) ⟨fun a U g mk q => ⟨q.1, q.2.1, va_K.moved (u := U) (U := U.calling g mk a) (Vm.Alike.refl U.vm) q.2.2⟩, rM_0 hK hP, fun U hU hW => ⟨rfl, by rw [hU]; exact hP, va_K.moved hW.alike hK⟩⟩ rfl rfl hl9 rfl (lv_room hw9) hdg hc9) hS (fun q _ h => hA q h) hA (fun r u t H1 locs1 ht _ hu hB hz hk hS1 => by obtain ⟨h9, hu⟩ := hu; subst h9; exact kk u hu H1 locs1 (by rw [ht] at hB; exact hB) hS1 hk)
end
set_option maxHeartbeats 4000000 in
set_option maxRecDepth 100000 in
theorem c_X4_round_1 (l : Launch) {dC : Nat → ClassId} {dI : Nat → Nat → Nat} {cI cZ : ClassId} {am : Nat → Nat} {sm fe ex : Int32} {gp gc : Nat → Int32} {dy : Int32} {n : Nat} {pe gr st dl wo : Nat → Int32} {q : Nat} {yc ya yd ys tp fu sh ro : Nat → Int32} {th : Int32} {x : Int32} (hI : iwM am) (h1 : ¬ outN x (nI 0) (nI 100000) = 0) : Met l yX4_round wsX4_round { frames := 1, cells := 0, slots := 0, locals := 22 } (va_Pc [.ref (am 0), .int x] (fun U => va_P (dC, dI) vwCl (wM cI cZ am sm fe ex gp gc dy n pe gr st dl wo q yc ya yd ys tp fu sh ro th) U.heap ∧ va_K (dC, dI) vwCl [(cI, .int), (cZ, .boolean)] U)) (va_Qi (fun r (_ : Unit) => r = nI 0) (fun _ t => va_P (dC, dI) vwCl (wM cI cZ am sm fe ex gp gc dy n pe gr st dl wo q yc ya yd ys tp fu sh ro (nI 1)) t.heap) (awM am)) 0 0 (awM am) := by
  refine Met.ofW (cc := cX4_round) (maxL := 5) (ret := (some .int)) (by decide) rfl ?_
  intro p e s m args below meth c s₁ B hml hv
  obtain ⟨rfl, hP, hK⟩ := hv
  have hx := B.exec
  have hb := B.bytes
  have hr := B.returns
  have hts := atoms_spec (ws := wsX4_round) B.pre
  have hown : s.vm.findClass RX4 = some m.cls := findClass_of_methodNamed B.named
  have hlocks := B.notSynchronized
  have hS : va_S (awM am) s.heap s.heap [] := va_S.rf
  have hl := lv_entry ([.ref (am 0), .int x]) (n := 5) (Nat.le_of_ble_eq_true rfl)
  rw [lg_entry_eq]
  generalize (lg_sl ([.ref (am 0), .int x]) ++ List.replicate (5 - (lg_sl ([.ref (am 0), .int x])).length) Slot.unset).toArray = ls at hl ⊢
  have hl : lv_has ls 5 [(0, .ref (am 0)), (1, .int x)] := hl
  have hk135 := hts (.constant RX4 135 100000) (by decide +kernel)
  refine lv_aload_n hx hb dX4_round_0 rfl (lv_at hl 0 rfl) ?_
  refine lv_iload_n hx hb dX4_round_1 rfl (lv_at hl 1 rfl) ?_
  refine lv_iconst (v := nI 0) hx hb dX4_round_2 (by decide) ?_
  refine lv_ldc hx hb hown hk135 dX4_round_3 ?_
  refine zt_i (y := nI 100000) rfl ?_
  refine k_X4_isIn l (x := x) (a := nI 0) (b := nI 100000) hx hb hml hown hts  gX4_round_X4_isIn ⟨Nat.le_of_ble_eq_true rfl, Nat.le_of_ble_eq_true rfl⟩ ⟨Nat.le_of_ble_eq_true rfl, Nat.le_of_ble_eq_true rfl⟩ hl.1 (Nat.le_of_ble_eq_true rfl) dX4_round_5 ?_
  refine zi_eq (tgt := 15) hx hb (by omega) dX4_round_8 (by decide) (fun c_8 => ?_) (fun c_8 => (show False by omega).elim)
  refine lv_iconst (v := nI 1) hx hb dX4_round_15 (by decide) ?_
  refine k_X4_goes_k l (k := 1) (hk := by decide) (h2 := by decide) hx hb hml hown hts hK hP gX4_round_X4_goes ⟨Nat.le_of_ble_eq_true rfl, Nat.le_of_ble_eq_true rfl⟩ ⟨Nat.le_of_ble_eq_true rfl, Nat.le_of_ble_eq_true rfl⟩ hl.1 (Nat.le_of_ble_eq_true rfl) dX4_round_16 hI (fun _ h => h) hS (fun H locs hP hS _ => ?_)
  refine zi_ne (tgt := 24) hx hb (by decide) dX4_round_19 (by decide) (fun c_19 => (show False by omega).elim) (fun c_19 => ?_)
  refine lv_iconst (v := nI 0) hx hb dX4_round_22 (by decide) ?_
  exact W.iret (v := nI 0) hx hb hr (fun t ht hW => ⟨⟨nI 0, (), rfl, rfl, by (try dsimp only); rw [ht]; exact hP⟩, hS.F ht⟩) hS.2.2 dX4_round_23
section
variable {p : Program} {e : Env} {R : Room} {s : State} {m : MethodId} {args : Array Value} {below : List Frame} {meth : Method} {c : Code} {H : Heap} {locs : List Loc} {cells slots : Nat} {Q : State → Prop} {cc : ByteArray} {pc : Nat} {ls : Array Slot} {rest : List Value} {own : String} {index nL : Nat} {Ts : List Cond} {H0 : Heap} {A0 : Nat → Prop}
theorem k_X4_round_1 (l : Launch) {dC : Nat → ClassId} {dI : Nat → Nat → Nat} {cI cZ : ClassId} {am : Nat → Nat} {sm fe ex : Int32} {gp gc : Nat → Int32} {dy : Int32} {n : Nat} {pe gr st dl wo : Nat → Int32} {q : Nat} {yc ya yd ys tp fu sh ro : Nat → Int32} {th : Int32} {x : Int32} (h1 : ¬ outN x (nI 0) (nI 100000) = 0) (hx : p.tables.exec = Jvm.exec) (hb : c.code = cc) (hml : c.maxLocals = nL) (hown : s.vm.findClass own = some m.cls) (hts : ∀ w ∈ Ts, w.before args s = true) (hK : va_K (dC, dI) vwCl [(cI, .int), (cZ, .boolean)] s) (hP : va_P (dC, dI) vwCl (wM cI cZ am sm fe ex gp gc dy n pe gr st dl wo q yc ya yd ys tp fu sh ro th) H) (hg9 : GoodIn Ts (wsV own index RX4 yX4_round wsX4_round)) (hR9 : 1 + 1 ≤ R.frames ∧ 8 + (5 + 11) + 22 ≤ R.locals) (hc9 : cells ≤ R.cells ∧ slots ≤ R.slots) (hl9 : ls.size = nL) (hw9 : (rest.map fun v => v.category).sum ≤ 8) (hdg : decode cc pc = .ok (.invokevirtual index, 3)) (hI : iwM am) (hA : ∀ x, awM am x → A0 x) (hS : va_S A0 H0 H locs) (kk : ∀ (H1 : Heap) (locs1 : List Loc), va_P (dC, dI) vwCl (wM cI cZ am sm fe ex gp gc dy n pe gr st dl wo q yc ya yd ys tp fu sh ro (nI 1)) H1 → va_S A0 H0 H1 locs1 → (∀ q : Nat, q < H.size → ¬ awM am q → H1[q]? = H[q]?) → W p l e R s m args below meth c H1 locs1 cells slots Q (F0 m (pc + 3) ls (.int (nI 0) :: rest))) : W p l e R s m args below meth c H locs cells slots Q (F0 m pc ls (.int x :: .ref (am 0) :: rest)) := va_calli (va_runV (As := [.int x]) (rest := rest) ⟨hx, hb, hml, hown, hts⟩ (c_X4_round_1 (dC := dC) (dI := dI) (cI := cI) (cZ := cZ) (am := am) (sm := sm) (fe := fe) (ex := ex) (gp := gp) (gc := gc) (dy := dy) (n := n) (pe := pe) (gr := gr) (st := st) (dl := dl) (wo := wo) (q := q) (yc := yc) (ya := ya) (yd := yd) (ys := ys) (tp := tp) (fu := fu) (sh := sh) (ro := ro) (th := th) (x := x) l hI h1) (cwV 1 hts hg9 rfl rfl rfl (by decide +kernel) hR9) ⟨fun a U g mk q => ⟨q.1, q.2.1, va_K.moved (u := U) (U := U.calling g mk a) (Vm.Alike.refl U.vm) q.2.2⟩, rM_0 hK hP, fun U hU hW => ⟨rfl, by rw [hU]; exact hP, va_K.moved hW.alike hK⟩⟩ rfl rfl hl9 rfl (lv_room hw9) hdg hc9) hS (fun q _ h => hA q h) hA (fun r u t H1 locs1 ht _ hu hB hz hk hS1 => by subst hu; exact kk H1 locs1 (by rw [ht] at hB; exact hB) hS1 hk)
end
set_option maxHeartbeats 4000000 in
set_option maxRecDepth 100000 in
theorem c_X4_round_2 (l : Launch) {dC : Nat → ClassId} {dI : Nat → Nat → Nat} {cI cZ : ClassId} {am : Nat → Nat} {sm fe ex : Int32} {gp gc : Nat → Int32} {dy : Int32} {n : Nat} {pe gr st dl wo : Nat → Int32} {q : Nat} {yc ya yd ys tp fu sh ro : Nat → Int32} {th : Int32} {le : Nat} (hI : iwM am) (hn : n ≤ 24) (hq : q ≤ 100) (hV : claimV gp gc gr yc ya ys q n) (hL : leftV sm fe ex ya ys q) (hle : le ≤ 100000) (h1 : outN (nI le) (nI 0) (nI 100000) = 0) (h2 : ¬ (tallyN st (nI 1) n = 0 ∧ tallyN st (nI 3) n = 0 ∧ openB ys q = false ∧ nI 1 ≤ leftF sm fe ex ya ys q ∧ q + gain (shK sm fe ex gp gc gr st yc ya ys n q le) n ≤ 100)) : Met l yX4_round wsX4_round { frames := 5, cells := 0, slots := 0, locals := 116 } (va_Pc [.ref (am 0), .int (nI le)] (fun U => va_P (dC, dI) vwCl (wM cI cZ am sm fe ex gp gc dy n pe gr st dl wo q yc ya yd ys tp fu sh ro th) U.heap ∧ va_K (dC, dI) vwCl [(cI, .int), (cZ, .boolean)] U)) (va_Qi (fun r (u9 : (Nat → Int32) × (Nat → Int32) × (Nat → Int32) × (Nat → Int32)) => r = nI 0 ∧ (True)) (fun u9 t => va_P (dC, dI) vwCl (wM cI cZ am sm fe ex gp gc dy n pe gr st dl wo q yc ya yd ys u9.1 u9.2.1 u9.2.2.1 u9.2.2.2 (nI 2)) t.heap) (awM am)) 0 0 (awM am) := by
  refine Met.ofW (cc := cX4_round) (maxL := 5) (ret := (some .int)) (by decide) rfl ?_
  intro p e s m args below meth c s₁ B hml hv
  obtain ⟨rfl, hP, hK⟩ := hv
  have hx := B.exec
  have hb := B.bytes
  have hr := B.returns
  have hts := atoms_spec (ws := wsX4_round) B.pre
  have hown : s.vm.findClass RX4 = some m.cls := findClass_of_methodNamed B.named
  have hlocks := B.notSynchronized
  have hS : va_S (awM am) s.heap s.heap [] := va_S.rf
  have hl := lv_entry ([.ref (am 0), .int (nI le)]) (n := 5) (Nat.le_of_ble_eq_true rfl)
  rw [lg_entry_eq]
  generalize (lg_sl ([.ref (am 0), .int (nI le)]) ++ List.replicate (5 - (lg_sl ([.ref (am 0), .int (nI le)])).length) Slot.unset).toArray = ls at hl ⊢
  have hl : lv_has ls 5 [(0, .ref (am 0)), (1, .int (nI le))] := hl
  have hk135 := hts (.constant RX4 135 100000) (by decide +kernel)
  have hiX4 : ∀ w ∈ wsX40, w ∈ wsX4_round := by decide +kernel
  have hf61 := hts (.fieldLink RX4 61 "SettlementFundModel" "claims" "I") (by decide +kernel)
  have hf68 := hts (.fieldLink RX4 68 "SettlementFundModel" "payments" "I") (by decide +kernel)
  have hf44 := hts (.fieldLink RX4 44 "SettlementFundModel" "takesPart" "[Z") (by decide +kernel)
  have hf50 := hts (.fieldLink RX4 50 "SettlementFundModel" "shares" "[I") (by decide +kernel)
  refine lv_aload_n hx hb dX4_round_0 rfl (lv_at hl 0 rfl) ?_
  refine lv_iload_n hx hb dX4_round_1 rfl (lv_at hl 1 rfl) ?_
  refine lv_iconst (v := nI 0) hx hb dX4_round_2 (by decide) ?_
  refine lv_ldc hx hb hown hk135 dX4_round_3 ?_
  refine zt_i (y := nI 100000) rfl ?_
  refine k_X4_isIn l (x := nI le) (a := nI 0) (b := nI 100000) hx hb hml hown hts  gX4_round_X4_isIn ⟨Nat.le_of_ble_eq_true rfl, Nat.le_of_ble_eq_true rfl⟩ ⟨Nat.le_of_ble_eq_true rfl, Nat.le_of_ble_eq_true rfl⟩ hl.1 (Nat.le_of_ble_eq_true rfl) dX4_round_5 ?_
  refine zi_eq (tgt := 15) hx hb (by omega) dX4_round_8 (by decide) (fun c_8 => (show False by omega).elim) (fun c_8 => ?_)
  refine lv_iconst (v := nI 0) hx hb dX4_round_11 (by decide) ?_
  refine lv_goto (tgt := 16) hx hb dX4_round_12 (by decide) ?_
  refine k_X4_goes_0 l  hx hb hml hown hts hK hP gX4_round_X4_goes ⟨Nat.le_of_ble_eq_true rfl, Nat.le_of_ble_eq_true rfl⟩ ⟨Nat.le_of_ble_eq_true rfl, Nat.le_of_ble_eq_true rfl⟩ hl.1 (Nat.le_of_ble_eq_true rfl) dX4_round_16 hI (fun _ h => h) hS (fun H locs hP hS _ => ?_)
  refine zi_ne (tgt := 24) hx hb (by decide) dX4_round_19 (by decide) (fun c_19 => ?_) (fun c_19 => (show False by omega).elim)
  refine lv_aload_n hx hb dX4_round_24 rfl (lv_at hl 0 rfl) ?_
  refine lv_iload_n hx hb dX4_round_25 rfl (lv_at hl 1 rfl) ?_
  refine k_X4_lays l (le := le) (hn := hn) (hq := hq) (hV := hV) (hL := hL) (hle := hle) hx hb hml hown hts hK hP gX4_round_X4_lays ⟨Nat.le_of_ble_eq_true rfl, Nat.le_of_ble_eq_true rfl⟩ ⟨Nat.le_of_ble_eq_true rfl, Nat.le_of_ble_eq_true rfl⟩ hl.1 (Nat.le_of_ble_eq_true rfl) dX4_round_26 hI (fun _ h => h) hS (fun u9 hu9 H locs hP hS _ => ?_)
  obtain ⟨tp3, fu3, sh3, ro3⟩ := u9
  have hP : va_P (dC, dI) vwCl (wM cI cZ am sm fe ex gp gc dy n pe gr st dl wo q yc ya yd ys tp3 fu3 sh3 ro3 (nI 0)) H := hP
  have hu_26 : ∀ k, k < n → tp3 k = nI (if k ∈ finL sm fe ex gp gc gr st yc ya ys n q le then 1 else 0) ∧ (k ∈ finL sm fe ex gp gc gr st yc ya ys n q le → sh3 k = nI (shK sm fe ex gp gc gr st yc ya ys n q le k)) := hu9
  refine lv_iconst (v := nI 0) hx hb dX4_round_29 (by decide) ?_
  refine lv_istore_n (lv' := [(2, .int (nI 0)), (0, .ref (am 0)), (1, .int (nI le))]) hx hb dX4_round_30 rfl hl (by decide) rfl (fun ls hl => ?_)
  refine lv_iconst (v := nI 0) hx hb dX4_round_31 (by decide) ?_
  refine lv_istore_n (lv' := [(3, .int (nI 0)), (2, .int (nI 0)), (0, .ref (am 0)), (1, .int (nI le))]) hx hb dX4_round_32 rfl hl (by decide) rfl (fun ls hl => ?_)
  have e_1 : nI 0 = nI (gain (shK sm fe ex gp gc gr st yc ya ys n q le) 0) := rfl
  rw [e_1] at hl
  refine zl_ro (fun a9 : Nat => [(0, .ref (am 0)), (1, .int (nI le)), (2, .int (nI (gain (shK sm fe ex gp gc gr st yc ya ys n q le) a9))), (3, .int (nI a9))]) (fun a9 : Nat => a9 ≤ n) (fun a9 : Nat => n - a9) 0 (Nat.zero_le _) (lv_sub hl [2, 3, 1, 0] rfl) ?_
  intro a9 hi_33 ih_33 ls hl
  obtain ⟨i, rfl⟩ : ∃ z, z = a9 := ⟨_, rfl⟩
  have hi_33 : i ≤ n := hi_33
  have hl : lv_has ls 5 [(0, .ref (am 0)), (1, .int (nI le)), (2, .int (nI (gain (shK sm fe ex gp gc gr st yc ya ys n q le) i))), (3, .int (nI i))] := hl
  have hgl := gain_le (shK sm fe ex gp gc gr st yc ya ys n q le) i
  refine lv_iload_n hx hb dX4_round_33 rfl (lv_at hl 3 rfl) ?_
  refine lv_aload_n hx hb dX4_round_34 rfl (lv_at hl 0 rfl) ?_
  refine gM_0_6 hx hb hts hiX4 hown hK hP hf61 dX4_round_35 ?_
  refine zb_ge (tgt := 73) hx hb (by omega) (by omega) dX4_round_38 (by decide) (fun c_38 => ?_) (fun c_38 => ?_)
  · have hgn := gain_le (shK sm fe ex gp gc gr st yc ya ys n q le) n
    have htl := tallyN_le st (nI 1) n
    have htl3 := tallyN_le st (nI 3) n
    refine lv_aload_n hx hb dX4_round_73 rfl (lv_at hl 0 rfl) ?_
    refine lv_iconst (v := nI 1) hx hb dX4_round_74 (by decide) ?_
    refine k_X4_countOf l (w := nI 1) (hn := hn) hx hb hml hown hts hK hP gX4_round_X4_countOf ⟨Nat.le_of_ble_eq_true rfl, Nat.le_of_ble_eq_true rfl⟩ ⟨Nat.le_of_ble_eq_true rfl, Nat.le_of_ble_eq_true rfl⟩ hl.1 (Nat.le_of_ble_eq_true rfl) dX4_round_75 ?_
    refine lv_aload_n hx hb dX4_round_78 rfl (lv_at hl 0 rfl) ?_
    refine lv_iconst (v := nI 3) hx hb dX4_round_79 (by decide) ?_
    refine k_X4_countOf l (w := nI 3) (hn := hn) hx hb hml hown hts hK hP gX4_round_X4_countOf ⟨Nat.le_of_ble_eq_true rfl, Nat.le_of_ble_eq_true rfl⟩ ⟨Nat.le_of_ble_eq_true rfl, Nat.le_of_ble_eq_true rfl⟩ hl.1 (Nat.le_of_ble_eq_true rfl) dX4_round_80 ?_
    refine lv_iadd hx hb dX4_round_83 ?_
    refine zt_i (y := nI ((tallyN st (nI 1) n) + (tallyN st (nI 3) n))) (nI_add _ _) ?_
    refine zi_gt (tgt := 102) hx hb (by omega) dX4_round_84 (by decide) (fun c_84 => ?_) (fun c_84 => ?_)
    · refine lv_iconst (v := nI 1) hx hb dX4_round_102 (by decide) ?_
      refine lv_goto (tgt := 107) hx hb dX4_round_103 (by decide) ?_
      refine lv_istore_n (lv' := [(3, .int (nI 1)), (0, .ref (am 0)), (1, .int (nI le)), (2, .int (nI (gain (shK sm fe ex gp gc gr st yc ya ys n q le) i)))]) hx hb dX4_round_107 rfl hl (by decide) rfl (fun ls hl => ?_)
      refine lv_aload_n hx hb dX4_round_108 rfl (lv_at hl 1 rfl) ?_
      refine lv_iload_n hx hb dX4_round_109 rfl (lv_at hl 0 rfl) ?_
      refine zi_ne (tgt := 124) hx hb (by decide) dX4_round_110 (by decide) (fun c_110 => ?_) (fun c_110 => (show False by omega).elim)
      refine lv_iconst (v := nI 2) hx hb dX4_round_124 (by decide) ?_
      refine lv_goto (tgt := 129) hx hb dX4_round_125 (by decide) ?_
      refine k_X4_goes_k l (k := 2) (hk := by decide) (h2 := by decide) hx hb hml hown hts hK hP gX4_round_X4_goes ⟨Nat.le_of_ble_eq_true rfl, Nat.le_of_ble_eq_true rfl⟩ ⟨Nat.le_of_ble_eq_true rfl, Nat.le_of_ble_eq_true rfl⟩ hl.1 (Nat.le_of_ble_eq_true rfl) dX4_round_129 hI (fun _ h => h) hS (fun H locs hP hS _ => ?_)
      refine zi_ne (tgt := 137) hx hb (by decide) dX4_round_132 (by decide) (fun c_132 => (show False by omega).elim) (fun c_132 => ?_)
      refine lv_iconst (v := nI 0) hx hb dX4_round_135 (by decide) ?_
      exact W.iret (v := nI 0) hx hb hr (fun t ht hW => ⟨⟨nI 0, (tp3, fu3, sh3, ro3), rfl, ⟨rfl, trivial⟩, by (try dsimp only); rw [ht]; exact hP⟩, hS.F ht⟩) hS.2.2 dX4_round_136
    · refine lv_aload_n hx hb dX4_round_87 rfl (lv_at hl 0 rfl) ?_
      refine k_X4_isOpen l (hq := hq) hx hb hml hown hts hK hP gX4_round_X4_isOpen ⟨Nat.le_of_ble_eq_true rfl, Nat.le_of_ble_eq_true rfl⟩ ⟨Nat.le_of_ble_eq_true rfl, Nat.le_of_ble_eq_true rfl⟩ hl.1 (Nat.le_of_ble_eq_true rfl) dX4_round_88 ?_
      refine zi_ne (tgt := 102) hx hb (by split <;> decide) dX4_round_91 (by decide) (fun c_91 => ?_) (fun c_91 => ?_)
      · refine lv_iconst (v := nI 1) hx hb dX4_round_102 (by decide) ?_
        refine lv_goto (tgt := 107) hx hb dX4_round_103 (by decide) ?_
        refine lv_istore_n (lv' := [(3, .int (nI 1)), (0, .ref (am 0)), (1, .int (nI le)), (2, .int (nI (gain (shK sm fe ex gp gc gr st yc ya ys n q le) i)))]) hx hb dX4_round_107 rfl hl (by decide) rfl (fun ls hl => ?_)
        refine lv_aload_n hx hb dX4_round_108 rfl (lv_at hl 1 rfl) ?_
        refine lv_iload_n hx hb dX4_round_109 rfl (lv_at hl 0 rfl) ?_
        refine zi_ne (tgt := 124) hx hb (by decide) dX4_round_110 (by decide) (fun c_110 => ?_) (fun c_110 => (show False by omega).elim)
        refine lv_iconst (v := nI 2) hx hb dX4_round_124 (by decide) ?_
        refine lv_goto (tgt := 129) hx hb dX4_round_125 (by decide) ?_
        refine k_X4_goes_k l (k := 2) (hk := by decide) (h2 := by decide) hx hb hml hown hts hK hP gX4_round_X4_goes ⟨Nat.le_of_ble_eq_true rfl, Nat.le_of_ble_eq_true rfl⟩ ⟨Nat.le_of_ble_eq_true rfl, Nat.le_of_ble_eq_true rfl⟩ hl.1 (Nat.le_of_ble_eq_true rfl) dX4_round_129 hI (fun _ h => h) hS (fun H locs hP hS _ => ?_)
        refine zi_ne (tgt := 137) hx hb (by decide) dX4_round_132 (by decide) (fun c_132 => (show False by omega).elim) (fun c_132 => ?_)
        refine lv_iconst (v := nI 0) hx hb dX4_round_135 (by decide) ?_
        exact W.iret (v := nI 0) hx hb hr (fun t ht hW => ⟨⟨nI 0, (tp3, fu3, sh3, ro3), rfl, ⟨rfl, trivial⟩, by (try dsimp only); rw [ht]; exact hP⟩, hS.F ht⟩) hS.2.2 dX4_round_136
      · refine lv_aload_n hx hb dX4_round_94 rfl (lv_at hl 0 rfl) ?_
        refine k_X4_left l (hq := hq) hx hb hml hown hts hK hP gX4_round_X4_left ⟨Nat.le_of_ble_eq_true rfl, Nat.le_of_ble_eq_true rfl⟩ ⟨Nat.le_of_ble_eq_true rfl, Nat.le_of_ble_eq_true rfl⟩ hl.1 (Nat.le_of_ble_eq_true rfl) dX4_round_95 ?_
        refine lv_iconst (v := nI 1) hx hb dX4_round_98 (by decide) ?_
        refine lv_icmp_ge (tgt := 106) hx hb dX4_round_99 (by decide) (fun c_99 => ?_) (fun c_99 => ?_)
        · refine lv_iconst (v := nI 0) hx hb dX4_round_106 (by decide) ?_
          refine lv_istore_n (lv' := [(3, .int (nI 0)), (0, .ref (am 0)), (1, .int (nI le)), (2, .int (nI (gain (shK sm fe ex gp gc gr st yc ya ys n q le) i)))]) hx hb dX4_round_107 rfl hl (by decide) rfl (fun ls hl => ?_)
          refine lv_aload_n hx hb dX4_round_108 rfl (lv_at hl 1 rfl) ?_
          refine lv_iload_n hx hb dX4_round_109 rfl (lv_at hl 0 rfl) ?_
          refine zi_ne (tgt := 124) hx hb (by decide) dX4_round_110 (by decide) (fun c_110 => (show False by omega).elim) (fun c_110 => ?_)
          refine lv_aload_n hx hb dX4_round_113 rfl (lv_at hl 1 rfl) ?_
          refine gM_0_12 hx hb hts hiX4 hown hK hP hf68 dX4_round_114 ?_
          refine lv_iload_n hx hb dX4_round_117 rfl (lv_at hl 3 rfl) ?_
          refine zt_i (y := nI (gain (shK sm fe ex gp gc gr st yc ya ys n q le) n)) (by rw [show i = n by omega]) ?_
          refine lv_iadd hx hb dX4_round_118 ?_
          refine zt_i (y := nI (q + (gain (shK sm fe ex gp gc gr st yc ya ys n q le) n))) (nI_add _ _) ?_
          refine lv_bipush (v := nI 100) hx hb dX4_round_119 (by decide) ?_
          refine zb_le (tgt := 128) hx hb (by omega) (by decide) dX4_round_121 (by decide) (fun c_121 => (show False by exact h2 ⟨by omega, by omega, zz_if_f c_91, c_99, c_121⟩).elim) (fun c_121 => ?_)
          refine lv_iconst (v := nI 2) hx hb dX4_round_124 (by decide) ?_
          refine lv_goto (tgt := 129) hx hb dX4_round_125 (by decide) ?_
          refine k_X4_goes_k l (k := 2) (hk := by decide) (h2 := by decide) hx hb hml hown hts hK hP gX4_round_X4_goes ⟨Nat.le_of_ble_eq_true rfl, Nat.le_of_ble_eq_true rfl⟩ ⟨Nat.le_of_ble_eq_true rfl, Nat.le_of_ble_eq_true rfl⟩ hl.1 (Nat.le_of_ble_eq_true rfl) dX4_round_129 hI (fun _ h => h) hS (fun H locs hP hS _ => ?_)
          refine zi_ne (tgt := 137) hx hb (by decide) dX4_round_132 (by decide) (fun c_132 => (show False by omega).elim) (fun c_132 => ?_)
          refine lv_iconst (v := nI 0) hx hb dX4_round_135 (by decide) ?_
          exact W.iret (v := nI 0) hx hb hr (fun t ht hW => ⟨⟨nI 0, (tp3, fu3, sh3, ro3), rfl, ⟨rfl, trivial⟩, by (try dsimp only); rw [ht]; exact hP⟩, hS.F ht⟩) hS.2.2 dX4_round_136
        · refine lv_iconst (v := nI 1) hx hb dX4_round_102 (by decide) ?_
          refine lv_goto (tgt := 107) hx hb dX4_round_103 (by decide) ?_
          refine lv_istore_n (lv' := [(3, .int (nI 1)), (0, .ref (am 0)), (1, .int (nI le)), (2, .int (nI (gain (shK sm fe ex gp gc gr st yc ya ys n q le) i)))]) hx hb dX4_round_107 rfl hl (by decide) rfl (fun ls hl => ?_)
          refine lv_aload_n hx hb dX4_round_108 rfl (lv_at hl 1 rfl) ?_
          refine lv_iload_n hx hb dX4_round_109 rfl (lv_at hl 0 rfl) ?_
          refine zi_ne (tgt := 124) hx hb (by decide) dX4_round_110 (by decide) (fun c_110 => ?_) (fun c_110 => (show False by omega).elim)
          refine lv_iconst (v := nI 2) hx hb dX4_round_124 (by decide) ?_
          refine lv_goto (tgt := 129) hx hb dX4_round_125 (by decide) ?_
          refine k_X4_goes_k l (k := 2) (hk := by decide) (h2 := by decide) hx hb hml hown hts hK hP gX4_round_X4_goes ⟨Nat.le_of_ble_eq_true rfl, Nat.le_of_ble_eq_true rfl⟩ ⟨Nat.le_of_ble_eq_true rfl, Nat.le_of_ble_eq_true rfl⟩ hl.1 (Nat.le_of_ble_eq_true rfl) dX4_round_129 hI (fun _ h => h) hS (fun H locs hP hS _ => ?_)
          refine zi_ne (tgt := 137) hx hb (by decide) dX4_round_132 (by decide) (fun c_132 => (show False by omega).elim) (fun c_132 => ?_)
          refine lv_iconst (v := nI 0) hx hb dX4_round_135 (by decide) ?_
          exact W.iret (v := nI 0) hx hb hr (fun t ht hW => ⟨⟨nI 0, (tp3, fu3, sh3, ro3), rfl, ⟨rfl, trivial⟩, by (try dsimp only); rw [ht]; exact hP⟩, hS.F ht⟩) hS.2.2 dX4_round_136
  · have hsk : shK sm fe ex gp gc gr st yc ya ys n q le i < 2 ^ 31 := shK_lt9 hn hV hL i (by omega)
    refine lv_iload_n hx hb dX4_round_41 rfl (lv_at hl 2 rfl) ?_
    refine lv_aload_n hx hb dX4_round_42 rfl (lv_at hl 0 rfl) ?_
    refine gM_0_17 hx hb hts hiX4 hown hK hP hf44 dX4_round_43 ?_
    refine lv_iload_n hx hb dX4_round_46 rfl (lv_at hl 3 rfl) ?_
    refine lM_12 hx hb hK hP (by omega) dX4_round_47 ?_
    refine zt_i (y := nI (if i ∈ finL sm fe ex gp gc gr st yc ya ys n q le then 1 else 0)) ((hu_26 i (by omega)).1) ?_
    refine zi_eq (tgt := 64) hx hb (by split <;> decide) dX4_round_48 (by decide) (fun c_48 => ?_) (fun c_48 => ?_)
    · refine lv_iconst (v := nI 0) hx hb dX4_round_64 (by decide) ?_
      refine lv_iadd hx hb dX4_round_65 ?_
      refine zt_i (y := nI ((gain (shK sm fe ex gp gc gr st yc ya ys n q le) i) + 0)) (nI_add _ _) ?_
      refine lv_istore_n (lv' := [(2, .int (nI ((gain (shK sm fe ex gp gc gr st yc ya ys n q le) i) + 0))), (0, .ref (am 0)), (1, .int (nI le)), (3, .int (nI i))]) hx hb dX4_round_66 rfl hl (by decide) rfl (fun ls hl => ?_)
      refine lv_iinc (v := nI (i + 1)) (lv' := [(3, .int (nI (i + 1))), (2, .int (nI ((gain (shK sm fe ex gp gc gr st yc ya ys n q le) i) + 0))), (0, .ref (am 0)), (1, .int (nI le))]) hx hb dX4_round_67 hl (k := 3) rfl (zz_inc _) (by decide) rfl (fun ls hl => ?_)
      refine lv_goto (tgt := 33) hx hb dX4_round_70 (by decide) ?_
      have e_2 : nI ((gain (shK sm fe ex gp gc gr st yc ya ys n q le) i) + 0) = nI (gain (shK sm fe ex gp gc gr st yc ya ys n q le) (i + 1)) := by rw [gain_s, shK_n (zz_ifq c_48)]; rfl
      rw [e_2] at hl
      exact ih_33 (i + 1) (by omega) (by omega) ls (lv_sub hl [2, 3, 1, 0] rfl)
    · refine lv_aload_n hx hb dX4_round_51 rfl (lv_at hl 0 rfl) ?_
      refine gM_0_19 hx hb hts hiX4 hown hK hP hf50 dX4_round_52 ?_
      refine lv_iload_n hx hb dX4_round_55 rfl (lv_at hl 3 rfl) ?_
      refine lM_14 hx hb hK hP (by omega) dX4_round_56 ?_
      refine zt_i (y := nI (shK sm fe ex gp gc gr st yc ya ys n q le i)) ((hu_26 i (by omega)).2 (zz_ifp c_48)) ?_
      refine zi_le (tgt := 64) hx hb (hsk) dX4_round_57 (by decide) (fun c_57 => ?_) (fun c_57 => ?_)
      · refine lv_iconst (v := nI 0) hx hb dX4_round_64 (by decide) ?_
        refine lv_iadd hx hb dX4_round_65 ?_
        refine zt_i (y := nI ((gain (shK sm fe ex gp gc gr st yc ya ys n q le) i) + 0)) (nI_add _ _) ?_
        refine lv_istore_n (lv' := [(2, .int (nI ((gain (shK sm fe ex gp gc gr st yc ya ys n q le) i) + 0))), (0, .ref (am 0)), (1, .int (nI le)), (3, .int (nI i))]) hx hb dX4_round_66 rfl hl (by decide) rfl (fun ls hl => ?_)
        refine lv_iinc (v := nI (i + 1)) (lv' := [(3, .int (nI (i + 1))), (2, .int (nI ((gain (shK sm fe ex gp gc gr st yc ya ys n q le) i) + 0))), (0, .ref (am 0)), (1, .int (nI le))]) hx hb dX4_round_67 hl (k := 3) rfl (zz_inc _) (by decide) rfl (fun ls hl => ?_)
        refine lv_goto (tgt := 33) hx hb dX4_round_70 (by decide) ?_
        have e_3 : nI ((gain (shK sm fe ex gp gc gr st yc ya ys n q le) i) + 0) = nI (gain (shK sm fe ex gp gc gr st yc ya ys n q le) (i + 1)) := by rw [gain_s, c_57]; rfl
        rw [e_3] at hl
        exact ih_33 (i + 1) (by omega) (by omega) ls (lv_sub hl [2, 3, 1, 0] rfl)
      · refine lv_iconst (v := nI 1) hx hb dX4_round_60 (by decide) ?_
        refine lv_goto (tgt := 65) hx hb dX4_round_61 (by decide) ?_
        refine lv_iadd hx hb dX4_round_65 ?_
        refine zt_i (y := nI ((gain (shK sm fe ex gp gc gr st yc ya ys n q le) i) + 1)) (nI_add _ _) ?_
        refine lv_istore_n (lv' := [(2, .int (nI ((gain (shK sm fe ex gp gc gr st yc ya ys n q le) i) + 1))), (0, .ref (am 0)), (1, .int (nI le)), (3, .int (nI i))]) hx hb dX4_round_66 rfl hl (by decide) rfl (fun ls hl => ?_)
        refine lv_iinc (v := nI (i + 1)) (lv' := [(3, .int (nI (i + 1))), (2, .int (nI ((gain (shK sm fe ex gp gc gr st yc ya ys n q le) i) + 1))), (0, .ref (am 0)), (1, .int (nI le))]) hx hb dX4_round_67 hl (k := 3) rfl (zz_inc _) (by decide) rfl (fun ls hl => ?_)
        refine lv_goto (tgt := 33) hx hb dX4_round_70 (by decide) ?_
        have e_4 : nI ((gain (shK sm fe ex gp gc gr st yc ya ys n q le) i) + 1) = nI (gain (shK sm fe ex gp gc gr st yc ya ys n q le) (i + 1)) := by rw [gain_s, if_pos c_57]
        rw [e_4] at hl
        exact ih_33 (i + 1) (by omega) (by omega) ls (lv_sub hl [2, 3, 1, 0] rfl)
section
variable {p : Program} {e : Env} {R : Room} {s : State} {m : MethodId} {args : Array Value} {below : List Frame} {meth : Method} {c : Code} {H : Heap} {locs : List Loc} {cells slots : Nat} {Q : State → Prop} {cc : ByteArray} {pc : Nat} {ls : Array Slot} {rest : List Value} {own : String} {index nL : Nat} {Ts : List Cond} {H0 : Heap} {A0 : Nat → Prop}
theorem k_X4_round_2 (l : Launch) {dC : Nat → ClassId} {dI : Nat → Nat → Nat} {cI cZ : ClassId} {am : Nat → Nat} {sm fe ex : Int32} {gp gc : Nat → Int32} {dy : Int32} {n : Nat} {pe gr st dl wo : Nat → Int32} {q : Nat} {yc ya yd ys tp fu sh ro : Nat → Int32} {th : Int32} {le : Nat} (hn : n ≤ 24) (hq : q ≤ 100) (hV : claimV gp gc gr yc ya ys q n) (hL : leftV sm fe ex ya ys q) (hle : le ≤ 100000) (h1 : outN (nI le) (nI 0) (nI 100000) = 0) (h2 : ¬ (tallyN st (nI 1) n = 0 ∧ tallyN st (nI 3) n = 0 ∧ openB ys q = false ∧ nI 1 ≤ leftF sm fe ex ya ys q ∧ q + gain (shK sm fe ex gp gc gr st yc ya ys n q le) n ≤ 100)) (hx : p.tables.exec = Jvm.exec) (hb : c.code = cc) (hml : c.maxLocals = nL) (hown : s.vm.findClass own = some m.cls) (hts : ∀ w ∈ Ts, w.before args s = true) (hK : va_K (dC, dI) vwCl [(cI, .int), (cZ, .boolean)] s) (hP : va_P (dC, dI) vwCl (wM cI cZ am sm fe ex gp gc dy n pe gr st dl wo q yc ya yd ys tp fu sh ro th) H) (hg9 : GoodIn Ts (wsV own index RX4 yX4_round wsX4_round)) (hR9 : 5 + 1 ≤ R.frames ∧ 8 + (5 + 11) + 116 ≤ R.locals) (hc9 : cells ≤ R.cells ∧ slots ≤ R.slots) (hl9 : ls.size = nL) (hw9 : (rest.map fun v => v.category).sum ≤ 8) (hdg : decode cc pc = .ok (.invokevirtual index, 3)) (hI : iwM am) (hA : ∀ x, awM am x → A0 x) (hS : va_S A0 H0 H locs) (kk : ∀ (u9 : (Nat → Int32) × (Nat → Int32) × (Nat → Int32) × (Nat → Int32)), (True) → ∀ (H1 : Heap) (locs1 : List Loc), va_P (dC, dI) vwCl (wM cI cZ am sm fe ex gp gc dy n pe gr st dl wo q yc ya yd ys u9.1 u9.2.1 u9.2.2.1 u9.2.2.2 (nI 2)) H1 → va_S A0 H0 H1 locs1 → (∀ q : Nat, q < H.size → ¬ awM am q → H1[q]? = H[q]?) → W p l e R s m args below meth c H1 locs1 cells slots Q (F0 m (pc + 3) ls (.int (nI 0) :: rest))) : W p l e R s m args below meth c H locs cells slots Q (F0 m pc ls (.int (nI le) :: .ref (am 0) :: rest)) := va_calli (va_runV (As := [.int (nI le)]) (rest := rest) ⟨hx, hb, hml, hown, hts⟩ (c_X4_round_2 (dC := dC) (dI := dI) (cI := cI) (cZ := cZ) (am := am) (sm := sm) (fe := fe) (ex := ex) (gp := gp) (gc := gc) (dy := dy) (n := n) (pe := pe) (gr := gr) (st := st) (dl := dl) (wo := wo) (q := q) (yc := yc) (ya := ya) (yd := yd) (ys := ys) (tp := tp) (fu := fu) (sh := sh) (ro := ro) (th := th) (le := le) l hI hn hq hV hL hle h1 h2) (cwV 1 hts hg9 rfl rfl rfl (by decide +kernel) hR9) ⟨fun a U g mk q => ⟨q.1, q.2.1, va_K.moved (u := U) (U := U.calling g mk a) (Vm.Alike.refl U.vm) q.2.2⟩, rM_0 hK hP, fun U hU hW => ⟨rfl, by rw [hU]; exact hP, va_K.moved hW.alike hK⟩⟩ rfl rfl hl9 rfl (lv_room hw9) hdg hc9) hS (fun q _ h => hA q h) hA (fun r u t H1 locs1 ht _ hu hB hz hk hS1 => by obtain ⟨h9, hu⟩ := hu; subst h9; exact kk u hu H1 locs1 (by rw [ht] at hB; exact hB) hS1 hk)
end
set_option maxHeartbeats 4000000 in
set_option maxRecDepth 100000 in
theorem c_X4_shareNow_ok (l : Launch) {dC : Nat → ClassId} {dI : Nat → Nat → Nat} {cI cZ : ClassId} {am : Nat → Nat} {sm fe ex : Int32} {gp gc : Nat → Int32} {dy : Int32} {n : Nat} {pe gr st dl wo : Nat → Int32} {q : Nat} {yc ya yd ys tp fu sh ro : Nat → Int32} {th : Int32} {k : Nat} {le : Nat} (hI : iwM am) (hn : n ≤ 24) (hq : q ≤ 100) (hk : k < n) (hV : claimV gp gc gr yc ya ys q n) (hL : leftV sm fe ex ya ys q) (hle : le ≤ 100000) (h1 : outN (nI le) (nI 0) (nI 100000) = 0) : Met l yX4_shareNow wsX4_shareNow { frames := 5, cells := 0, slots := 0, locals := 116 } (va_Pc [.ref (am 0), .int (nI k), .int (nI le)] (fun U => va_P (dC, dI) vwCl (wM cI cZ am sm fe ex gp gc dy n pe gr st dl wo q yc ya yd ys tp fu sh ro th) U.heap ∧ va_K (dC, dI) vwCl [(cI, .int), (cZ, .boolean)] U)) (va_Qi (fun r (u9 : (Nat → Int32) × (Nat → Int32) × (Nat → Int32) × (Nat → Int32)) => r = nI (shK sm fe ex gp gc gr st yc ya ys n q le k) ∧ (True)) (fun u9 t => va_P (dC, dI) vwCl (wM cI cZ am sm fe ex gp gc dy n pe gr st dl wo q yc ya yd ys u9.1 u9.2.1 u9.2.2.1 u9.2.2.2 (nI 0)) t.heap) (awM am)) 0 0 (awM am) := by
  refine Met.ofW (cc := cX4_shareNow) (maxL := 3) (ret := (some .int)) (by decide) rfl ?_
  intro p e s m args below meth c s₁ B hml hv
  obtain ⟨rfl, hP, hK⟩ := hv
  have hx := B.exec
  have hb := B.bytes
  have hr := B.returns
  have hts := atoms_spec (ws := wsX4_shareNow) B.pre
  have hown : s.vm.findClass RX4 = some m.cls := findClass_of_methodNamed B.named
  have hlocks := B.notSynchronized
  have hS : va_S (awM am) s.heap s.heap [] := va_S.rf
  have hl := lv_entry ([.ref (am 0), .int (nI k), .int (nI le)]) (n := 3) (Nat.le_of_ble_eq_true rfl)
  rw [lg_entry_eq]
  generalize (lg_sl ([.ref (am 0), .int (nI k), .int (nI le)]) ++ List.replicate (3 - (lg_sl ([.ref (am 0), .int (nI k), .int (nI le)])).length) Slot.unset).toArray = ls at hl ⊢
  have hl : lv_has ls 3 [(0, .ref (am 0)), (1, .int (nI k)), (2, .int (nI le))] := hl
  have hk135 := hts (.constant RX4 135 100000) (by decide +kernel)
  have hiX4 : ∀ w ∈ wsX40, w ∈ wsX4_shareNow := by decide +kernel
  have hf44 := hts (.fieldLink RX4 44 "SettlementFundModel" "takesPart" "[Z") (by decide +kernel)
  have hf50 := hts (.fieldLink RX4 50 "SettlementFundModel" "shares" "[I") (by decide +kernel)
  refine lv_aload_n hx hb dX4_shareNow_0 rfl (lv_at hl 0 rfl) ?_
  refine lv_aload_n hx hb dX4_shareNow_1 rfl (lv_at hl 0 rfl) ?_
  refine lv_iload_n hx hb dX4_shareNow_2 rfl (lv_at hl 1 rfl) ?_
  refine k_X4_isClaim_ok l (k := k) (hn := hn) (hk := hk) hx hb hml hown hts hK hP gX4_shareNow_X4_isClaim ⟨Nat.le_of_ble_eq_true rfl, Nat.le_of_ble_eq_true rfl⟩ ⟨Nat.le_of_ble_eq_true rfl, Nat.le_of_ble_eq_true rfl⟩ hl.1 (Nat.le_of_ble_eq_true rfl) dX4_shareNow_3 ?_
  refine zi_ne (tgt := 13) hx hb (by decide) dX4_shareNow_6 (by decide) (fun c_6 => ?_) (fun c_6 => (show False by omega).elim)
  refine lv_iload_n hx hb dX4_shareNow_13 rfl (lv_at hl 2 rfl) ?_
  refine lv_iconst (v := nI 0) hx hb dX4_shareNow_14 (by decide) ?_
  refine lv_ldc hx hb hown hk135 dX4_shareNow_15 ?_
  refine zt_i (y := nI 100000) rfl ?_
  refine k_X4_isIn l (x := nI le) (a := nI 0) (b := nI 100000) hx hb hml hown hts  gX4_shareNow_X4_isIn ⟨Nat.le_of_ble_eq_true rfl, Nat.le_of_ble_eq_true rfl⟩ ⟨Nat.le_of_ble_eq_true rfl, Nat.le_of_ble_eq_true rfl⟩ hl.1 (Nat.le_of_ble_eq_true rfl) dX4_shareNow_17 ?_
  refine zi_eq (tgt := 27) hx hb (by omega) dX4_shareNow_20 (by decide) (fun c_20 => (show False by omega).elim) (fun c_20 => ?_)
  refine lv_iconst (v := nI 0) hx hb dX4_shareNow_23 (by decide) ?_
  refine lv_goto (tgt := 28) hx hb dX4_shareNow_24 (by decide) ?_
  refine k_X4_goes_0 l  hx hb hml hown hts hK hP gX4_shareNow_X4_goes ⟨Nat.le_of_ble_eq_true rfl, Nat.le_of_ble_eq_true rfl⟩ ⟨Nat.le_of_ble_eq_true rfl, Nat.le_of_ble_eq_true rfl⟩ hl.1 (Nat.le_of_ble_eq_true rfl) dX4_shareNow_28 hI (fun _ h => h) hS (fun H locs hP hS _ => ?_)
  refine zi_ne (tgt := 36) hx hb (by decide) dX4_shareNow_31 (by decide) (fun c_31 => ?_) (fun c_31 => (show False by omega).elim)
  refine lv_aload_n hx hb dX4_shareNow_36 rfl (lv_at hl 0 rfl) ?_
  refine lv_iload_n hx hb dX4_shareNow_37 rfl (lv_at hl 2 rfl) ?_
  refine k_X4_lays l (le := le) (hn := hn) (hq := hq) (hV := hV) (hL := hL) (hle := hle) hx hb hml hown hts hK hP gX4_shareNow_X4_lays ⟨Nat.le_of_ble_eq_true rfl, Nat.le_of_ble_eq_true rfl⟩ ⟨Nat.le_of_ble_eq_true rfl, Nat.le_of_ble_eq_true rfl⟩ hl.1 (Nat.le_of_ble_eq_true rfl) dX4_shareNow_38 hI (fun _ h => h) hS (fun u9 hu9 H locs hP hS _ => ?_)
  obtain ⟨tp3, fu3, sh3, ro3⟩ := u9
  have hP : va_P (dC, dI) vwCl (wM cI cZ am sm fe ex gp gc dy n pe gr st dl wo q yc ya yd ys tp3 fu3 sh3 ro3 (nI 0)) H := hP
  have hu_38 : ∀ k, k < n → tp3 k = nI (if k ∈ finL sm fe ex gp gc gr st yc ya ys n q le then 1 else 0) ∧ (k ∈ finL sm fe ex gp gc gr st yc ya ys n q le → sh3 k = nI (shK sm fe ex gp gc gr st yc ya ys n q le k)) := hu9
  refine lv_aload_n hx hb dX4_shareNow_41 rfl (lv_at hl 0 rfl) ?_
  refine gM_0_17 hx hb hts hiX4 hown hK hP hf44 dX4_shareNow_42 ?_
  refine lv_iload_n hx hb dX4_shareNow_45 rfl (lv_at hl 1 rfl) ?_
  refine lM_12 hx hb hK hP (by omega) dX4_shareNow_46 ?_
  refine zt_i (y := nI (if k ∈ finL sm fe ex gp gc gr st yc ya ys n q le then 1 else 0)) ((hu_38 k hk).1) ?_
  refine zi_eq (tgt := 59) hx hb (by split <;> decide) dX4_shareNow_47 (by decide) (fun c_47 => ?_) (fun c_47 => ?_)
  · refine lv_iconst (v := nI 0) hx hb dX4_shareNow_59 (by decide) ?_
    exact W.iret (v := nI 0) hx hb hr (fun t ht hW => ⟨⟨nI 0, (tp3, fu3, sh3, ro3), rfl, ⟨congrArg nI (shK_n (zz_ifq c_47)).symm, trivial⟩, by (try dsimp only); rw [ht]; exact hP⟩, hS.F ht⟩) hS.2.2 dX4_shareNow_60
  · refine lv_aload_n hx hb dX4_shareNow_50 rfl (lv_at hl 0 rfl) ?_
    refine gM_0_19 hx hb hts hiX4 hown hK hP hf50 dX4_shareNow_51 ?_
    refine lv_iload_n hx hb dX4_shareNow_54 rfl (lv_at hl 1 rfl) ?_
    refine lM_14 hx hb hK hP (by omega) dX4_shareNow_55 ?_
    refine zt_i (y := nI (shK sm fe ex gp gc gr st yc ya ys n q le k)) ((hu_38 k hk).2 (zz_ifp c_47)) ?_
    refine lv_goto (tgt := 60) hx hb dX4_shareNow_56 (by decide) ?_
    exact W.iret (v := nI (shK sm fe ex gp gc gr st yc ya ys n q le k)) hx hb hr (fun t ht hW => ⟨⟨nI (shK sm fe ex gp gc gr st yc ya ys n q le k), (tp3, fu3, sh3, ro3), rfl, ⟨rfl, trivial⟩, by (try dsimp only); rw [ht]; exact hP⟩, hS.F ht⟩) hS.2.2 dX4_shareNow_60
section
variable {p : Program} {e : Env} {R : Room} {s : State} {m : MethodId} {args : Array Value} {below : List Frame} {meth : Method} {c : Code} {H : Heap} {locs : List Loc} {cells slots : Nat} {Q : State → Prop} {cc : ByteArray} {pc : Nat} {ls : Array Slot} {rest : List Value} {own : String} {index nL : Nat} {Ts : List Cond} {H0 : Heap} {A0 : Nat → Prop}
theorem k_X4_shareNow_ok (l : Launch) {dC : Nat → ClassId} {dI : Nat → Nat → Nat} {cI cZ : ClassId} {am : Nat → Nat} {sm fe ex : Int32} {gp gc : Nat → Int32} {dy : Int32} {n : Nat} {pe gr st dl wo : Nat → Int32} {q : Nat} {yc ya yd ys tp fu sh ro : Nat → Int32} {th : Int32} {k : Nat} {le : Nat} (hn : n ≤ 24) (hq : q ≤ 100) (hk : k < n) (hV : claimV gp gc gr yc ya ys q n) (hL : leftV sm fe ex ya ys q) (hle : le ≤ 100000) (h1 : outN (nI le) (nI 0) (nI 100000) = 0) (hx : p.tables.exec = Jvm.exec) (hb : c.code = cc) (hml : c.maxLocals = nL) (hown : s.vm.findClass own = some m.cls) (hts : ∀ w ∈ Ts, w.before args s = true) (hK : va_K (dC, dI) vwCl [(cI, .int), (cZ, .boolean)] s) (hP : va_P (dC, dI) vwCl (wM cI cZ am sm fe ex gp gc dy n pe gr st dl wo q yc ya yd ys tp fu sh ro th) H) (hg9 : GoodIn Ts (wsV own index RX4 yX4_shareNow wsX4_shareNow)) (hR9 : 5 + 1 ≤ R.frames ∧ 8 + (3 + 11) + 116 ≤ R.locals) (hc9 : cells ≤ R.cells ∧ slots ≤ R.slots) (hl9 : ls.size = nL) (hw9 : (rest.map fun v => v.category).sum ≤ 8) (hdg : decode cc pc = .ok (.invokevirtual index, 3)) (hI : iwM am) (hA : ∀ x, awM am x → A0 x) (hS : va_S A0 H0 H locs) (kk : ∀ (u9 : (Nat → Int32) × (Nat → Int32) × (Nat → Int32) × (Nat → Int32)), (True) → ∀ (H1 : Heap) (locs1 : List Loc), va_P (dC, dI) vwCl (wM cI cZ am sm fe ex gp gc dy n pe gr st dl wo q yc ya yd ys u9.1 u9.2.1 u9.2.2.1 u9.2.2.2 (nI 0)) H1 → va_S A0 H0 H1 locs1 → (∀ q : Nat, q < H.size → ¬ awM am q → H1[q]? = H[q]?) → W p l e R s m args below meth c H1 locs1 cells slots Q (F0 m (pc + 3) ls (.int (nI (shK sm fe ex gp gc gr st yc ya ys n q le k)) :: rest))) : W p l e R s m args below meth c H locs cells slots Q (F0 m pc ls (.int (nI le) :: .int (nI k) :: .ref (am 0) :: rest)) := va_calli (va_runV (As := [.int (nI k), .int (nI le)]) (rest := rest) ⟨hx, hb, hml, hown, hts⟩ (c_X4_shareNow_ok (dC := dC) (dI := dI) (cI := cI) (cZ := cZ) (am := am) (sm := sm) (fe := fe) (ex := ex) (gp := gp) (gc := gc) (dy := dy) (n := n) (pe := pe) (gr := gr) (st := st) (dl := dl) (wo := wo) (q := q) (yc := yc) (ya := ya) (yd := yd) (ys := ys) (tp := tp) (fu := fu) (sh := sh) (ro := ro) (th := th) (k := k) (le := le) l hI hn hq hk hV hL hle h1) (cwV 2 hts hg9 rfl rfl rfl (by decide +kernel) hR9) ⟨fun a U g mk q => ⟨q.1, q.2.1, va_K.moved (u := U) (U := U.calling g mk a) (Vm.Alike.refl U.vm) q.2.2⟩, rM_0 hK hP, fun U hU hW => ⟨rfl, by rw [hU]; exact hP, va_K.moved hW.alike hK⟩⟩ rfl rfl hl9 rfl (lv_room hw9) hdg hc9) hS (fun q _ h => hA q h) hA (fun r u t H1 locs1 ht _ hu hB hz hk hS1 => by obtain ⟨h9, hu⟩ := hu; subst h9; exact kk u hu H1 locs1 (by rw [ht] at hB; exact hB) hS1 hk)
end
set_option maxHeartbeats 4000000 in
set_option maxRecDepth 100000 in
theorem c_X4_shareNow_1 (l : Launch) {dC : Nat → ClassId} {dI : Nat → Nat → Nat} {cI cZ : ClassId} {am : Nat → Nat} {sm fe ex : Int32} {gp gc : Nat → Int32} {dy : Int32} {n : Nat} {pe gr st dl wo : Nat → Int32} {q : Nat} {yc ya yd ys tp fu sh ro : Nat → Int32} {th : Int32} {x : Int32} {y : Int32} (hI : iwM am) (hn : n ≤ 24) (hk : ¬ vp_in x n) : Met l yX4_shareNow wsX4_shareNow { frames := 2, cells := 0, slots := 0, locals := 43 } (va_Pc [.ref (am 0), .int x, .int y] (fun U => va_P (dC, dI) vwCl (wM cI cZ am sm fe ex gp gc dy n pe gr st dl wo q yc ya yd ys tp fu sh ro th) U.heap ∧ va_K (dC, dI) vwCl [(cI, .int), (cZ, .boolean)] U)) (va_Qi (fun r (_ : Unit) => r = nI 0) (fun _ t => va_P (dC, dI) vwCl (wM cI cZ am sm fe ex gp gc dy n pe gr st dl wo q yc ya yd ys tp fu sh ro (nI 1)) t.heap) (awM am)) 0 0 (awM am) := by
  refine Met.ofW (cc := cX4_shareNow) (maxL := 3) (ret := (some .int)) (by decide) rfl ?_
  intro p e s m args below meth c s₁ B hml hv
  obtain ⟨rfl, hP, hK⟩ := hv
  have hx := B.exec
  have hb := B.bytes
  have hr := B.returns
  have hts := atoms_spec (ws := wsX4_shareNow) B.pre
  have hown : s.vm.findClass RX4 = some m.cls := findClass_of_methodNamed B.named
  have hlocks := B.notSynchronized
  have hS : va_S (awM am) s.heap s.heap [] := va_S.rf
  have hl := lv_entry ([.ref (am 0), .int x, .int y]) (n := 3) (Nat.le_of_ble_eq_true rfl)
  rw [lg_entry_eq]
  generalize (lg_sl ([.ref (am 0), .int x, .int y]) ++ List.replicate (3 - (lg_sl ([.ref (am 0), .int x, .int y])).length) Slot.unset).toArray = ls at hl ⊢
  have hl : lv_has ls 3 [(0, .ref (am 0)), (1, .int x), (2, .int y)] := hl
  refine lv_aload_n hx hb dX4_shareNow_0 rfl (lv_at hl 0 rfl) ?_
  refine lv_aload_n hx hb dX4_shareNow_1 rfl (lv_at hl 0 rfl) ?_
  refine lv_iload_n hx hb dX4_shareNow_2 rfl (lv_at hl 1 rfl) ?_
  refine k_X4_isClaim_no l (x := x) (hn := hn) (hk := hk) hx hb hml hown hts hK hP gX4_shareNow_X4_isClaim ⟨Nat.le_of_ble_eq_true rfl, Nat.le_of_ble_eq_true rfl⟩ ⟨Nat.le_of_ble_eq_true rfl, Nat.le_of_ble_eq_true rfl⟩ hl.1 (Nat.le_of_ble_eq_true rfl) dX4_shareNow_3 ?_
  refine zi_ne (tgt := 13) hx hb (by decide) dX4_shareNow_6 (by decide) (fun c_6 => (show False by omega).elim) (fun c_6 => ?_)
  refine lv_iconst (v := nI 1) hx hb dX4_shareNow_9 (by decide) ?_
  refine lv_goto (tgt := 28) hx hb dX4_shareNow_10 (by decide) ?_
  refine k_X4_goes_k l (k := 1) (hk := by decide) (h2 := by decide) hx hb hml hown hts hK hP gX4_shareNow_X4_goes ⟨Nat.le_of_ble_eq_true rfl, Nat.le_of_ble_eq_true rfl⟩ ⟨Nat.le_of_ble_eq_true rfl, Nat.le_of_ble_eq_true rfl⟩ hl.1 (Nat.le_of_ble_eq_true rfl) dX4_shareNow_28 hI (fun _ h => h) hS (fun H locs hP hS _ => ?_)
  refine zi_ne (tgt := 36) hx hb (by decide) dX4_shareNow_31 (by decide) (fun c_31 => (show False by omega).elim) (fun c_31 => ?_)
  refine lv_iconst (v := nI 0) hx hb dX4_shareNow_34 (by decide) ?_
  exact W.iret (v := nI 0) hx hb hr (fun t ht hW => ⟨⟨nI 0, (), rfl, rfl, by (try dsimp only); rw [ht]; exact hP⟩, hS.F ht⟩) hS.2.2 dX4_shareNow_35
section
variable {p : Program} {e : Env} {R : Room} {s : State} {m : MethodId} {args : Array Value} {below : List Frame} {meth : Method} {c : Code} {H : Heap} {locs : List Loc} {cells slots : Nat} {Q : State → Prop} {cc : ByteArray} {pc : Nat} {ls : Array Slot} {rest : List Value} {own : String} {index nL : Nat} {Ts : List Cond} {H0 : Heap} {A0 : Nat → Prop}
theorem k_X4_shareNow_1 (l : Launch) {dC : Nat → ClassId} {dI : Nat → Nat → Nat} {cI cZ : ClassId} {am : Nat → Nat} {sm fe ex : Int32} {gp gc : Nat → Int32} {dy : Int32} {n : Nat} {pe gr st dl wo : Nat → Int32} {q : Nat} {yc ya yd ys tp fu sh ro : Nat → Int32} {th : Int32} {x : Int32} {y : Int32} (hn : n ≤ 24) (hk : ¬ vp_in x n) (hx : p.tables.exec = Jvm.exec) (hb : c.code = cc) (hml : c.maxLocals = nL) (hown : s.vm.findClass own = some m.cls) (hts : ∀ w ∈ Ts, w.before args s = true) (hK : va_K (dC, dI) vwCl [(cI, .int), (cZ, .boolean)] s) (hP : va_P (dC, dI) vwCl (wM cI cZ am sm fe ex gp gc dy n pe gr st dl wo q yc ya yd ys tp fu sh ro th) H) (hg9 : GoodIn Ts (wsV own index RX4 yX4_shareNow wsX4_shareNow)) (hR9 : 2 + 1 ≤ R.frames ∧ 8 + (3 + 11) + 43 ≤ R.locals) (hc9 : cells ≤ R.cells ∧ slots ≤ R.slots) (hl9 : ls.size = nL) (hw9 : (rest.map fun v => v.category).sum ≤ 8) (hdg : decode cc pc = .ok (.invokevirtual index, 3)) (hI : iwM am) (hA : ∀ x, awM am x → A0 x) (hS : va_S A0 H0 H locs) (kk : ∀ (H1 : Heap) (locs1 : List Loc), va_P (dC, dI) vwCl (wM cI cZ am sm fe ex gp gc dy n pe gr st dl wo q yc ya yd ys tp fu sh ro (nI 1)) H1 → va_S A0 H0 H1 locs1 → (∀ q : Nat, q < H.size → ¬ awM am q → H1[q]? = H[q]?) → W p l e R s m args below meth c H1 locs1 cells slots Q (F0 m (pc + 3) ls (.int (nI 0) :: rest))) : W p l e R s m args below meth c H locs cells slots Q (F0 m pc ls (.int y :: .int x :: .ref (am 0) :: rest)) := va_calli (va_runV (As := [.int x, .int y]) (rest := rest) ⟨hx, hb, hml, hown, hts⟩ (c_X4_shareNow_1 (dC := dC) (dI := dI) (cI := cI) (cZ := cZ) (am := am) (sm := sm) (fe := fe) (ex := ex) (gp := gp) (gc := gc) (dy := dy) (n := n) (pe := pe) (gr := gr) (st := st) (dl := dl) (wo := wo) (q := q) (yc := yc) (ya := ya) (yd := yd) (ys := ys) (tp := tp) (fu := fu) (sh := sh) (ro := ro) (th := th) (x := x) (y := y) l hI hn hk) (cwV 2 hts hg9 rfl rfl rfl (by decide +kernel) hR9) ⟨fun a U g mk q => ⟨q.1, q.2.1, va_K.moved (u := U) (U := U.calling g mk a) (Vm.Alike.refl U.vm) q.2.2⟩, rM_0 hK hP, fun U hU hW => ⟨rfl, by rw [hU]; exact hP, va_K.moved hW.alike hK⟩⟩ rfl rfl hl9 rfl (lv_room hw9) hdg hc9) hS (fun q _ h => hA q h) hA (fun r u t H1 locs1 ht _ hu hB hz hk hS1 => by subst hu; exact kk H1 locs1 (by rw [ht] at hB; exact hB) hS1 hk)
end
set_option maxHeartbeats 4000000 in
set_option maxRecDepth 100000 in
theorem c_X4_shareNow_2 (l : Launch) {dC : Nat → ClassId} {dI : Nat → Nat → Nat} {cI cZ : ClassId} {am : Nat → Nat} {sm fe ex : Int32} {gp gc : Nat → Int32} {dy : Int32} {n : Nat} {pe gr st dl wo : Nat → Int32} {q : Nat} {yc ya yd ys tp fu sh ro : Nat → Int32} {th : Int32} {k : Nat} {y : Int32} (hI : iwM am) (hn : n ≤ 24) (hk : k < n) (h1 : ¬ outN y (nI 0) (nI 100000) = 0) : Met l yX4_shareNow wsX4_shareNow { frames := 2, cells := 0, slots := 0, locals := 43 } (va_Pc [.ref (am 0), .int (nI k), .int y] (fun U => va_P (dC, dI) vwCl (wM cI cZ am sm fe ex gp gc dy n pe gr st dl wo q yc ya yd ys tp fu sh ro th) U.heap ∧ va_K (dC, dI) vwCl [(cI, .int), (cZ, .boolean)] U)) (va_Qi (fun r (_ : Unit) => r = nI 0) (fun _ t => va_P (dC, dI) vwCl (wM cI cZ am sm fe ex gp gc dy n pe gr st dl wo q yc ya yd ys tp fu sh ro (nI 2)) t.heap) (awM am)) 0 0 (awM am) := by
  refine Met.ofW (cc := cX4_shareNow) (maxL := 3) (ret := (some .int)) (by decide) rfl ?_
  intro p e s m args below meth c s₁ B hml hv
  obtain ⟨rfl, hP, hK⟩ := hv
  have hx := B.exec
  have hb := B.bytes
  have hr := B.returns
  have hts := atoms_spec (ws := wsX4_shareNow) B.pre
  have hown : s.vm.findClass RX4 = some m.cls := findClass_of_methodNamed B.named
  have hlocks := B.notSynchronized
  have hS : va_S (awM am) s.heap s.heap [] := va_S.rf
  have hl := lv_entry ([.ref (am 0), .int (nI k), .int y]) (n := 3) (Nat.le_of_ble_eq_true rfl)
  rw [lg_entry_eq]
  generalize (lg_sl ([.ref (am 0), .int (nI k), .int y]) ++ List.replicate (3 - (lg_sl ([.ref (am 0), .int (nI k), .int y])).length) Slot.unset).toArray = ls at hl ⊢
  have hl : lv_has ls 3 [(0, .ref (am 0)), (1, .int (nI k)), (2, .int y)] := hl
  have hk135 := hts (.constant RX4 135 100000) (by decide +kernel)
  refine lv_aload_n hx hb dX4_shareNow_0 rfl (lv_at hl 0 rfl) ?_
  refine lv_aload_n hx hb dX4_shareNow_1 rfl (lv_at hl 0 rfl) ?_
  refine lv_iload_n hx hb dX4_shareNow_2 rfl (lv_at hl 1 rfl) ?_
  refine k_X4_isClaim_ok l (k := k) (hn := hn) (hk := hk) hx hb hml hown hts hK hP gX4_shareNow_X4_isClaim ⟨Nat.le_of_ble_eq_true rfl, Nat.le_of_ble_eq_true rfl⟩ ⟨Nat.le_of_ble_eq_true rfl, Nat.le_of_ble_eq_true rfl⟩ hl.1 (Nat.le_of_ble_eq_true rfl) dX4_shareNow_3 ?_
  refine zi_ne (tgt := 13) hx hb (by decide) dX4_shareNow_6 (by decide) (fun c_6 => ?_) (fun c_6 => (show False by omega).elim)
  refine lv_iload_n hx hb dX4_shareNow_13 rfl (lv_at hl 2 rfl) ?_
  refine lv_iconst (v := nI 0) hx hb dX4_shareNow_14 (by decide) ?_
  refine lv_ldc hx hb hown hk135 dX4_shareNow_15 ?_
  refine zt_i (y := nI 100000) rfl ?_
  refine k_X4_isIn l (x := y) (a := nI 0) (b := nI 100000) hx hb hml hown hts  gX4_shareNow_X4_isIn ⟨Nat.le_of_ble_eq_true rfl, Nat.le_of_ble_eq_true rfl⟩ ⟨Nat.le_of_ble_eq_true rfl, Nat.le_of_ble_eq_true rfl⟩ hl.1 (Nat.le_of_ble_eq_true rfl) dX4_shareNow_17 ?_
  refine zi_eq (tgt := 27) hx hb (by omega) dX4_shareNow_20 (by decide) (fun c_20 => ?_) (fun c_20 => (show False by omega).elim)
  refine lv_iconst (v := nI 2) hx hb dX4_shareNow_27 (by decide) ?_
  refine k_X4_goes_k l (k := 2) (hk := by decide) (h2 := by decide) hx hb hml hown hts hK hP gX4_shareNow_X4_goes ⟨Nat.le_of_ble_eq_true rfl, Nat.le_of_ble_eq_true rfl⟩ ⟨Nat.le_of_ble_eq_true rfl, Nat.le_of_ble_eq_true rfl⟩ hl.1 (Nat.le_of_ble_eq_true rfl) dX4_shareNow_28 hI (fun _ h => h) hS (fun H locs hP hS _ => ?_)
  refine zi_ne (tgt := 36) hx hb (by decide) dX4_shareNow_31 (by decide) (fun c_31 => (show False by omega).elim) (fun c_31 => ?_)
  refine lv_iconst (v := nI 0) hx hb dX4_shareNow_34 (by decide) ?_
  exact W.iret (v := nI 0) hx hb hr (fun t ht hW => ⟨⟨nI 0, (), rfl, rfl, by (try dsimp only); rw [ht]; exact hP⟩, hS.F ht⟩) hS.2.2 dX4_shareNow_35
section
variable {p : Program} {e : Env} {R : Room} {s : State} {m : MethodId} {args : Array Value} {below : List Frame} {meth : Method} {c : Code} {H : Heap} {locs : List Loc} {cells slots : Nat} {Q : State → Prop} {cc : ByteArray} {pc : Nat} {ls : Array Slot} {rest : List Value} {own : String} {index nL : Nat} {Ts : List Cond} {H0 : Heap} {A0 : Nat → Prop}
theorem k_X4_shareNow_2 (l : Launch) {dC : Nat → ClassId} {dI : Nat → Nat → Nat} {cI cZ : ClassId} {am : Nat → Nat} {sm fe ex : Int32} {gp gc : Nat → Int32} {dy : Int32} {n : Nat} {pe gr st dl wo : Nat → Int32} {q : Nat} {yc ya yd ys tp fu sh ro : Nat → Int32} {th : Int32} {k : Nat} {y : Int32} (hn : n ≤ 24) (hk : k < n) (h1 : ¬ outN y (nI 0) (nI 100000) = 0) (hx : p.tables.exec = Jvm.exec) (hb : c.code = cc) (hml : c.maxLocals = nL) (hown : s.vm.findClass own = some m.cls) (hts : ∀ w ∈ Ts, w.before args s = true) (hK : va_K (dC, dI) vwCl [(cI, .int), (cZ, .boolean)] s) (hP : va_P (dC, dI) vwCl (wM cI cZ am sm fe ex gp gc dy n pe gr st dl wo q yc ya yd ys tp fu sh ro th) H) (hg9 : GoodIn Ts (wsV own index RX4 yX4_shareNow wsX4_shareNow)) (hR9 : 2 + 1 ≤ R.frames ∧ 8 + (3 + 11) + 43 ≤ R.locals) (hc9 : cells ≤ R.cells ∧ slots ≤ R.slots) (hl9 : ls.size = nL) (hw9 : (rest.map fun v => v.category).sum ≤ 8) (hdg : decode cc pc = .ok (.invokevirtual index, 3)) (hI : iwM am) (hA : ∀ x, awM am x → A0 x) (hS : va_S A0 H0 H locs) (kk : ∀ (H1 : Heap) (locs1 : List Loc), va_P (dC, dI) vwCl (wM cI cZ am sm fe ex gp gc dy n pe gr st dl wo q yc ya yd ys tp fu sh ro (nI 2)) H1 → va_S A0 H0 H1 locs1 → (∀ q : Nat, q < H.size → ¬ awM am q → H1[q]? = H[q]?) → W p l e R s m args below meth c H1 locs1 cells slots Q (F0 m (pc + 3) ls (.int (nI 0) :: rest))) : W p l e R s m args below meth c H locs cells slots Q (F0 m pc ls (.int y :: .int (nI k) :: .ref (am 0) :: rest)) := va_calli (va_runV (As := [.int (nI k), .int y]) (rest := rest) ⟨hx, hb, hml, hown, hts⟩ (c_X4_shareNow_2 (dC := dC) (dI := dI) (cI := cI) (cZ := cZ) (am := am) (sm := sm) (fe := fe) (ex := ex) (gp := gp) (gc := gc) (dy := dy) (n := n) (pe := pe) (gr := gr) (st := st) (dl := dl) (wo := wo) (q := q) (yc := yc) (ya := ya) (yd := yd) (ys := ys) (tp := tp) (fu := fu) (sh := sh) (ro := ro) (th := th) (k := k) (y := y) l hI hn hk h1) (cwV 2 hts hg9 rfl rfl rfl (by decide +kernel) hR9) ⟨fun a U g mk q => ⟨q.1, q.2.1, va_K.moved (u := U) (U := U.calling g mk a) (Vm.Alike.refl U.vm) q.2.2⟩, rM_0 hK hP, fun U hU hW => ⟨rfl, by rw [hU]; exact hP, va_K.moved hW.alike hK⟩⟩ rfl rfl hl9 rfl (lv_room hw9) hdg hc9) hS (fun q _ h => hA q h) hA (fun r u t H1 locs1 ht _ hu hB hz hk hS1 => by subst hu; exact kk H1 locs1 (by rw [ht] at hB; exact hB) hS1 hk)
end
set_option maxHeartbeats 4000000 in
set_option maxRecDepth 100000 in
theorem c_X4_shareOf_ok (l : Launch) {dC : Nat → ClassId} {dI : Nat → Nat → Nat} {cI cZ : ClassId} {am : Nat → Nat} {sm fe ex : Int32} {gp gc : Nat → Int32} {dy : Int32} {n : Nat} {pe gr st dl wo : Nat → Int32} {q : Nat} {yc ya yd ys tp fu sh ro : Nat → Int32} {th : Int32} {k : Nat} {le : Nat} (hI : iwM am) (hn : n ≤ 24) (hq : q ≤ 100) (hk : k < n) (hV : claimV gp gc gr yc ya ys q n) (hL : leftV sm fe ex ya ys q) (hle : le ≤ 100000) (h1 : outN (nI le) (nI 0) (nI 100000) = 0) : Met l yX4_shareOf wsX4_shareOf { frames := 6, cells := 0, slots := 0, locals := 138 } (va_Pc [.ref (am 0), .int (nI k), .int (nI le)] (fun U => va_P (dC, dI) vwCl (wM cI cZ am sm fe ex gp gc dy n pe gr st dl wo q yc ya yd ys tp fu sh ro th) U.heap ∧ va_K (dC, dI) vwCl [(cI, .int), (cZ, .boolean)] U)) (va_Qi (fun r (u9 : (Nat → Int32) × (Nat → Int32) × (Nat → Int32) × (Nat → Int32)) => r = nI (shK sm fe ex gp gc gr st yc ya ys n q le k) ∧ (True)) (fun u9 t => va_P (dC, dI) vwCl (wM cI cZ am sm fe ex gp gc dy n pe gr st dl wo q yc ya yd ys u9.1 u9.2.1 u9.2.2.1 u9.2.2.2 (nI 0)) t.heap) (awM am)) 0 0 (awM am) := by
  refine Met.ofW (cc := cX4_shareOf) (maxL := 3) (ret := (some .int)) (by decide) rfl ?_
  intro p e s m args below meth c s₁ B hml hv
  obtain ⟨rfl, hP, hK⟩ := hv
  have hx := B.exec
  have hb := B.bytes
  have hr := B.returns
  have hts := atoms_spec (ws := wsX4_shareOf) B.pre
  have hown : s.vm.findClass RX4 = some m.cls := findClass_of_methodNamed B.named
  have hlocks := B.notSynchronized
  have hS : va_S (awM am) s.heap s.heap [] := va_S.rf
  have hl := lv_entry ([.ref (am 0), .int (nI k), .int (nI le)]) (n := 3) (Nat.le_of_ble_eq_true rfl)
  rw [lg_entry_eq]
  generalize (lg_sl ([.ref (am 0), .int (nI k), .int (nI le)]) ++ List.replicate (3 - (lg_sl ([.ref (am 0), .int (nI k), .int (nI le)])).length) Slot.unset).toArray = ls at hl ⊢
  have hl : lv_has ls 3 [(0, .ref (am 0)), (1, .int (nI k)), (2, .int (nI le))] := hl
  refine lv_aload_n hx hb dX4_shareOf_0 rfl (lv_at hl 0 rfl) ?_
  refine lv_iload_n hx hb dX4_shareOf_1 rfl (lv_at hl 1 rfl) ?_
  refine lv_iload_n hx hb dX4_shareOf_2 rfl (lv_at hl 2 rfl) ?_
  refine k_X4_shareNow_ok l (k := k) (le := le) (hn := hn) (hq := hq) (hk := hk) (hV := hV) (hL := hL) (hle := hle) (h1 := h1) hx hb hml hown hts hK hP gX4_shareOf_X4_shareNow ⟨Nat.le_of_ble_eq_true rfl, Nat.le_of_ble_eq_true rfl⟩ ⟨Nat.le_of_ble_eq_true rfl, Nat.le_of_ble_eq_true rfl⟩ hl.1 (Nat.le_of_ble_eq_true rfl) dX4_shareOf_3 hI (fun _ h => h) hS (fun u9 hu9 H locs hP hS _ => ?_)
  obtain ⟨tp3, fu3, sh3, ro3⟩ := u9
  have hP : va_P (dC, dI) vwCl (wM cI cZ am sm fe ex gp gc dy n pe gr st dl wo q yc ya yd ys tp3 fu3 sh3 ro3 (nI 0)) H := hP
  have hu_3 : True := hu9
  exact W.iret (v := nI (shK sm fe ex gp gc gr st yc ya ys n q le k)) hx hb hr (fun t ht hW => ⟨⟨nI (shK sm fe ex gp gc gr st yc ya ys n q le k), (tp3, fu3, sh3, ro3), rfl, ⟨rfl, trivial⟩, by (try dsimp only); rw [ht]; exact hP⟩, hS.F ht⟩) hS.2.2 dX4_shareOf_6
section
variable {p : Program} {e : Env} {R : Room} {s : State} {m : MethodId} {args : Array Value} {below : List Frame} {meth : Method} {c : Code} {H : Heap} {locs : List Loc} {cells slots : Nat} {Q : State → Prop} {cc : ByteArray} {pc : Nat} {ls : Array Slot} {rest : List Value} {own : String} {index nL : Nat} {Ts : List Cond} {H0 : Heap} {A0 : Nat → Prop}
theorem k_X4_shareOf_ok (l : Launch) {dC : Nat → ClassId} {dI : Nat → Nat → Nat} {cI cZ : ClassId} {am : Nat → Nat} {sm fe ex : Int32} {gp gc : Nat → Int32} {dy : Int32} {n : Nat} {pe gr st dl wo : Nat → Int32} {q : Nat} {yc ya yd ys tp fu sh ro : Nat → Int32} {th : Int32} {k : Nat} {le : Nat} (hn : n ≤ 24) (hq : q ≤ 100) (hk : k < n) (hV : claimV gp gc gr yc ya ys q n) (hL : leftV sm fe ex ya ys q) (hle : le ≤ 100000) (h1 : outN (nI le) (nI 0) (nI 100000) = 0) (hx : p.tables.exec = Jvm.exec) (hb : c.code = cc) (hml : c.maxLocals = nL) (hown : s.vm.findClass own = some m.cls) (hts : ∀ w ∈ Ts, w.before args s = true) (hK : va_K (dC, dI) vwCl [(cI, .int), (cZ, .boolean)] s) (hP : va_P (dC, dI) vwCl (wM cI cZ am sm fe ex gp gc dy n pe gr st dl wo q yc ya yd ys tp fu sh ro th) H) (hg9 : GoodIn Ts (wsV own index RX4 yX4_shareOf wsX4_shareOf)) (hR9 : 6 + 1 ≤ R.frames ∧ 8 + (3 + 11) + 138 ≤ R.locals) (hc9 : cells ≤ R.cells ∧ slots ≤ R.slots) (hl9 : ls.size = nL) (hw9 : (rest.map fun v => v.category).sum ≤ 8) (hdg : decode cc pc = .ok (.invokevirtual index, 3)) (hI : iwM am) (hA : ∀ x, awM am x → A0 x) (hS : va_S A0 H0 H locs) (kk : ∀ (u9 : (Nat → Int32) × (Nat → Int32) × (Nat → Int32) × (Nat → Int32)), (True) → ∀ (H1 : Heap) (locs1 : List Loc), va_P (dC, dI) vwCl (wM cI cZ am sm fe ex gp gc dy n pe gr st dl wo q yc ya yd ys u9.1 u9.2.1 u9.2.2.1 u9.2.2.2 (nI 0)) H1 → va_S A0 H0 H1 locs1 → (∀ q : Nat, q < H.size → ¬ awM am q → H1[q]? = H[q]?) → W p l e R s m args below meth c H1 locs1 cells slots Q (F0 m (pc + 3) ls (.int (nI (shK sm fe ex gp gc gr st yc ya ys n q le k)) :: rest))) : W p l e R s m args below meth c H locs cells slots Q (F0 m pc ls (.int (nI le) :: .int (nI k) :: .ref (am 0) :: rest)) := va_calli (va_runV (As := [.int (nI k), .int (nI le)]) (rest := rest) ⟨hx, hb, hml, hown, hts⟩ (c_X4_shareOf_ok (dC := dC) (dI := dI) (cI := cI) (cZ := cZ) (am := am) (sm := sm) (fe := fe) (ex := ex) (gp := gp) (gc := gc) (dy := dy) (n := n) (pe := pe) (gr := gr) (st := st) (dl := dl) (wo := wo) (q := q) (yc := yc) (ya := ya) (yd := yd) (ys := ys) (tp := tp) (fu := fu) (sh := sh) (ro := ro) (th := th) (k := k) (le := le) l hI hn hq hk hV hL hle h1) (cwV 2 hts hg9 rfl rfl rfl (by decide +kernel) hR9) ⟨fun a U g mk q => ⟨q.1, q.2.1, va_K.moved (u := U) (U := U.calling g mk a) (Vm.Alike.refl U.vm) q.2.2⟩, rM_0 hK hP, fun U hU hW => ⟨rfl, by rw [hU]; exact hP, va_K.moved hW.alike hK⟩⟩ rfl rfl hl9 rfl (lv_room hw9) hdg hc9) hS (fun q _ h => hA q h) hA (fun r u t H1 locs1 ht _ hu hB hz hk hS1 => by obtain ⟨h9, hu⟩ := hu; subst h9; exact kk u hu H1 locs1 (by rw [ht] at hB; exact hB) hS1 hk)
end
set_option maxHeartbeats 4000000 in
set_option maxRecDepth 100000 in
theorem c_X4_shareOf_1 (l : Launch) {dC : Nat → ClassId} {dI : Nat → Nat → Nat} {cI cZ : ClassId} {am : Nat → Nat} {sm fe ex : Int32} {gp gc : Nat → Int32} {dy : Int32} {n : Nat} {pe gr st dl wo : Nat → Int32} {q : Nat} {yc ya yd ys tp fu sh ro : Nat → Int32} {th : Int32} {x : Int32} {y : Int32} (hI : iwM am) (hn : n ≤ 24) (hk : ¬ vp_in x n) : Met l yX4_shareOf wsX4_shareOf { frames := 3, cells := 0, slots := 0, locals := 65 } (va_Pc [.ref (am 0), .int x, .int y] (fun U => va_P (dC, dI) vwCl (wM cI cZ am sm fe ex gp gc dy n pe gr st dl wo q yc ya yd ys tp fu sh ro th) U.heap ∧ va_K (dC, dI) vwCl [(cI, .int), (cZ, .boolean)] U)) (va_Qi (fun r (_ : Unit) => r = nI 0) (fun _ t => va_P (dC, dI) vwCl (wM cI cZ am sm fe ex gp gc dy n pe gr st dl wo q yc ya yd ys tp fu sh ro (nI 1)) t.heap) (awM am)) 0 0 (awM am) := by
  refine Met.ofW (cc := cX4_shareOf) (maxL := 3) (ret := (some .int)) (by decide) rfl ?_
  intro p e s m args below meth c s₁ B hml hv
  obtain ⟨rfl, hP, hK⟩ := hv
  have hx := B.exec
  have hb := B.bytes
  have hr := B.returns
  have hts := atoms_spec (ws := wsX4_shareOf) B.pre
  have hown : s.vm.findClass RX4 = some m.cls := findClass_of_methodNamed B.named
  have hlocks := B.notSynchronized
  have hS : va_S (awM am) s.heap s.heap [] := va_S.rf
  have hl := lv_entry ([.ref (am 0), .int x, .int y]) (n := 3) (Nat.le_of_ble_eq_true rfl)
  rw [lg_entry_eq]
  generalize (lg_sl ([.ref (am 0), .int x, .int y]) ++ List.replicate (3 - (lg_sl ([.ref (am 0), .int x, .int y])).length) Slot.unset).toArray = ls at hl ⊢
  have hl : lv_has ls 3 [(0, .ref (am 0)), (1, .int x), (2, .int y)] := hl
  refine lv_aload_n hx hb dX4_shareOf_0 rfl (lv_at hl 0 rfl) ?_
  refine lv_iload_n hx hb dX4_shareOf_1 rfl (lv_at hl 1 rfl) ?_
  refine lv_iload_n hx hb dX4_shareOf_2 rfl (lv_at hl 2 rfl) ?_
  refine k_X4_shareNow_1 l (x := x) (y := y) (hn := hn) (hk := hk) hx hb hml hown hts hK hP gX4_shareOf_X4_shareNow ⟨Nat.le_of_ble_eq_true rfl, Nat.le_of_ble_eq_true rfl⟩ ⟨Nat.le_of_ble_eq_true rfl, Nat.le_of_ble_eq_true rfl⟩ hl.1 (Nat.le_of_ble_eq_true rfl) dX4_shareOf_3 hI (fun _ h => h) hS (fun H locs hP hS _ => ?_)
  exact W.iret (v := nI 0) hx hb hr (fun t ht hW => ⟨⟨nI 0, (), rfl, rfl, by (try dsimp only); rw [ht]; exact hP⟩, hS.F ht⟩) hS.2.2 dX4_shareOf_6
section
variable {p : Program} {e : Env} {R : Room} {s : State} {m : MethodId} {args : Array Value} {below : List Frame} {meth : Method} {c : Code} {H : Heap} {locs : List Loc} {cells slots : Nat} {Q : State → Prop} {cc : ByteArray} {pc : Nat} {ls : Array Slot} {rest : List Value} {own : String} {index nL : Nat} {Ts : List Cond} {H0 : Heap} {A0 : Nat → Prop}
theorem k_X4_shareOf_1 (l : Launch) {dC : Nat → ClassId} {dI : Nat → Nat → Nat} {cI cZ : ClassId} {am : Nat → Nat} {sm fe ex : Int32} {gp gc : Nat → Int32} {dy : Int32} {n : Nat} {pe gr st dl wo : Nat → Int32} {q : Nat} {yc ya yd ys tp fu sh ro : Nat → Int32} {th : Int32} {x : Int32} {y : Int32} (hn : n ≤ 24) (hk : ¬ vp_in x n) (hx : p.tables.exec = Jvm.exec) (hb : c.code = cc) (hml : c.maxLocals = nL) (hown : s.vm.findClass own = some m.cls) (hts : ∀ w ∈ Ts, w.before args s = true) (hK : va_K (dC, dI) vwCl [(cI, .int), (cZ, .boolean)] s) (hP : va_P (dC, dI) vwCl (wM cI cZ am sm fe ex gp gc dy n pe gr st dl wo q yc ya yd ys tp fu sh ro th) H) (hg9 : GoodIn Ts (wsV own index RX4 yX4_shareOf wsX4_shareOf)) (hR9 : 3 + 1 ≤ R.frames ∧ 8 + (3 + 11) + 65 ≤ R.locals) (hc9 : cells ≤ R.cells ∧ slots ≤ R.slots) (hl9 : ls.size = nL) (hw9 : (rest.map fun v => v.category).sum ≤ 8) (hdg : decode cc pc = .ok (.invokevirtual index, 3)) (hI : iwM am) (hA : ∀ x, awM am x → A0 x) (hS : va_S A0 H0 H locs) (kk : ∀ (H1 : Heap) (locs1 : List Loc), va_P (dC, dI) vwCl (wM cI cZ am sm fe ex gp gc dy n pe gr st dl wo q yc ya yd ys tp fu sh ro (nI 1)) H1 → va_S A0 H0 H1 locs1 → (∀ q : Nat, q < H.size → ¬ awM am q → H1[q]? = H[q]?) → W p l e R s m args below meth c H1 locs1 cells slots Q (F0 m (pc + 3) ls (.int (nI 0) :: rest))) : W p l e R s m args below meth c H locs cells slots Q (F0 m pc ls (.int y :: .int x :: .ref (am 0) :: rest)) := va_calli (va_runV (As := [.int x, .int y]) (rest := rest) ⟨hx, hb, hml, hown, hts⟩ (c_X4_shareOf_1 (dC := dC) (dI := dI) (cI := cI) (cZ := cZ) (am := am) (sm := sm) (fe := fe) (ex := ex) (gp := gp) (gc := gc) (dy := dy) (n := n) (pe := pe) (gr := gr) (st := st) (dl := dl) (wo := wo) (q := q) (yc := yc) (ya := ya) (yd := yd) (ys := ys) (tp := tp) (fu := fu) (sh := sh) (ro := ro) (th := th) (x := x) (y := y) l hI hn hk) (cwV 2 hts hg9 rfl rfl rfl (by decide +kernel) hR9) ⟨fun a U g mk q => ⟨q.1, q.2.1, va_K.moved (u := U) (U := U.calling g mk a) (Vm.Alike.refl U.vm) q.2.2⟩, rM_0 hK hP, fun U hU hW => ⟨rfl, by rw [hU]; exact hP, va_K.moved hW.alike hK⟩⟩ rfl rfl hl9 rfl (lv_room hw9) hdg hc9) hS (fun q _ h => hA q h) hA (fun r u t H1 locs1 ht _ hu hB hz hk hS1 => by subst hu; exact kk H1 locs1 (by rw [ht] at hB; exact hB) hS1 hk)
end
set_option maxHeartbeats 4000000 in
set_option maxRecDepth 100000 in
theorem c_X4_shareOf_2 (l : Launch) {dC : Nat → ClassId} {dI : Nat → Nat → Nat} {cI cZ : ClassId} {am : Nat → Nat} {sm fe ex : Int32} {gp gc : Nat → Int32} {dy : Int32} {n : Nat} {pe gr st dl wo : Nat → Int32} {q : Nat} {yc ya yd ys tp fu sh ro : Nat → Int32} {th : Int32} {k : Nat} {y : Int32} (hI : iwM am) (hn : n ≤ 24) (hk : k < n) (h1 : ¬ outN y (nI 0) (nI 100000) = 0) : Met l yX4_shareOf wsX4_shareOf { frames := 3, cells := 0, slots := 0, locals := 65 } (va_Pc [.ref (am 0), .int (nI k), .int y] (fun U => va_P (dC, dI) vwCl (wM cI cZ am sm fe ex gp gc dy n pe gr st dl wo q yc ya yd ys tp fu sh ro th) U.heap ∧ va_K (dC, dI) vwCl [(cI, .int), (cZ, .boolean)] U)) (va_Qi (fun r (_ : Unit) => r = nI 0) (fun _ t => va_P (dC, dI) vwCl (wM cI cZ am sm fe ex gp gc dy n pe gr st dl wo q yc ya yd ys tp fu sh ro (nI 2)) t.heap) (awM am)) 0 0 (awM am) := by
  refine Met.ofW (cc := cX4_shareOf) (maxL := 3) (ret := (some .int)) (by decide) rfl ?_
  intro p e s m args below meth c s₁ B hml hv
  obtain ⟨rfl, hP, hK⟩ := hv
  have hx := B.exec
  have hb := B.bytes
  have hr := B.returns
  have hts := atoms_spec (ws := wsX4_shareOf) B.pre
  have hown : s.vm.findClass RX4 = some m.cls := findClass_of_methodNamed B.named
  have hlocks := B.notSynchronized
  have hS : va_S (awM am) s.heap s.heap [] := va_S.rf
  have hl := lv_entry ([.ref (am 0), .int (nI k), .int y]) (n := 3) (Nat.le_of_ble_eq_true rfl)
  rw [lg_entry_eq]
  generalize (lg_sl ([.ref (am 0), .int (nI k), .int y]) ++ List.replicate (3 - (lg_sl ([.ref (am 0), .int (nI k), .int y])).length) Slot.unset).toArray = ls at hl ⊢
  have hl : lv_has ls 3 [(0, .ref (am 0)), (1, .int (nI k)), (2, .int y)] := hl
  refine lv_aload_n hx hb dX4_shareOf_0 rfl (lv_at hl 0 rfl) ?_
  refine lv_iload_n hx hb dX4_shareOf_1 rfl (lv_at hl 1 rfl) ?_
  refine lv_iload_n hx hb dX4_shareOf_2 rfl (lv_at hl 2 rfl) ?_
  refine k_X4_shareNow_2 l (k := k) (y := y) (hn := hn) (hk := hk) (h1 := h1) hx hb hml hown hts hK hP gX4_shareOf_X4_shareNow ⟨Nat.le_of_ble_eq_true rfl, Nat.le_of_ble_eq_true rfl⟩ ⟨Nat.le_of_ble_eq_true rfl, Nat.le_of_ble_eq_true rfl⟩ hl.1 (Nat.le_of_ble_eq_true rfl) dX4_shareOf_3 hI (fun _ h => h) hS (fun H locs hP hS _ => ?_)
  exact W.iret (v := nI 0) hx hb hr (fun t ht hW => ⟨⟨nI 0, (), rfl, rfl, by (try dsimp only); rw [ht]; exact hP⟩, hS.F ht⟩) hS.2.2 dX4_shareOf_6
section
variable {p : Program} {e : Env} {R : Room} {s : State} {m : MethodId} {args : Array Value} {below : List Frame} {meth : Method} {c : Code} {H : Heap} {locs : List Loc} {cells slots : Nat} {Q : State → Prop} {cc : ByteArray} {pc : Nat} {ls : Array Slot} {rest : List Value} {own : String} {index nL : Nat} {Ts : List Cond} {H0 : Heap} {A0 : Nat → Prop}
theorem k_X4_shareOf_2 (l : Launch) {dC : Nat → ClassId} {dI : Nat → Nat → Nat} {cI cZ : ClassId} {am : Nat → Nat} {sm fe ex : Int32} {gp gc : Nat → Int32} {dy : Int32} {n : Nat} {pe gr st dl wo : Nat → Int32} {q : Nat} {yc ya yd ys tp fu sh ro : Nat → Int32} {th : Int32} {k : Nat} {y : Int32} (hn : n ≤ 24) (hk : k < n) (h1 : ¬ outN y (nI 0) (nI 100000) = 0) (hx : p.tables.exec = Jvm.exec) (hb : c.code = cc) (hml : c.maxLocals = nL) (hown : s.vm.findClass own = some m.cls) (hts : ∀ w ∈ Ts, w.before args s = true) (hK : va_K (dC, dI) vwCl [(cI, .int), (cZ, .boolean)] s) (hP : va_P (dC, dI) vwCl (wM cI cZ am sm fe ex gp gc dy n pe gr st dl wo q yc ya yd ys tp fu sh ro th) H) (hg9 : GoodIn Ts (wsV own index RX4 yX4_shareOf wsX4_shareOf)) (hR9 : 3 + 1 ≤ R.frames ∧ 8 + (3 + 11) + 65 ≤ R.locals) (hc9 : cells ≤ R.cells ∧ slots ≤ R.slots) (hl9 : ls.size = nL) (hw9 : (rest.map fun v => v.category).sum ≤ 8) (hdg : decode cc pc = .ok (.invokevirtual index, 3)) (hI : iwM am) (hA : ∀ x, awM am x → A0 x) (hS : va_S A0 H0 H locs) (kk : ∀ (H1 : Heap) (locs1 : List Loc), va_P (dC, dI) vwCl (wM cI cZ am sm fe ex gp gc dy n pe gr st dl wo q yc ya yd ys tp fu sh ro (nI 2)) H1 → va_S A0 H0 H1 locs1 → (∀ q : Nat, q < H.size → ¬ awM am q → H1[q]? = H[q]?) → W p l e R s m args below meth c H1 locs1 cells slots Q (F0 m (pc + 3) ls (.int (nI 0) :: rest))) : W p l e R s m args below meth c H locs cells slots Q (F0 m pc ls (.int y :: .int (nI k) :: .ref (am 0) :: rest)) := va_calli (va_runV (As := [.int (nI k), .int y]) (rest := rest) ⟨hx, hb, hml, hown, hts⟩ (c_X4_shareOf_2 (dC := dC) (dI := dI) (cI := cI) (cZ := cZ) (am := am) (sm := sm) (fe := fe) (ex := ex) (gp := gp) (gc := gc) (dy := dy) (n := n) (pe := pe) (gr := gr) (st := st) (dl := dl) (wo := wo) (q := q) (yc := yc) (ya := ya) (yd := yd) (ys := ys) (tp := tp) (fu := fu) (sh := sh) (ro := ro) (th := th) (k := k) (y := y) l hI hn hk h1) (cwV 2 hts hg9 rfl rfl rfl (by decide +kernel) hR9) ⟨fun a U g mk q => ⟨q.1, q.2.1, va_K.moved (u := U) (U := U.calling g mk a) (Vm.Alike.refl U.vm) q.2.2⟩, rM_0 hK hP, fun U hU hW => ⟨rfl, by rw [hU]; exact hP, va_K.moved hW.alike hK⟩⟩ rfl rfl hl9 rfl (lv_room hw9) hdg hc9) hS (fun q _ h => hA q h) hA (fun r u t H1 locs1 ht _ hu hB hz hk hS1 => by subst hu; exact kk H1 locs1 (by rw [ht] at hB; exact hB) hS1 hk)
end
set_option maxHeartbeats 4000000 in
set_option maxRecDepth 100000 in
theorem c_X4_shareBySorting_ok (l : Launch) {dC : Nat → ClassId} {dI : Nat → Nat → Nat} {cI cZ : ClassId} {am : Nat → Nat} {sm fe ex : Int32} {gp gc : Nat → Int32} {dy : Int32} {n : Nat} {pe gr st dl wo : Nat → Int32} {q : Nat} {yc ya yd ys tp fu sh ro : Nat → Int32} {th : Int32} {k : Nat} {le : Nat} (hI : iwM am) (hn : n ≤ 24) (hq : q ≤ 100) (hk : k < n) (hV : claimV gp gc gr yc ya ys q n) (hL : leftV sm fe ex ya ys q) (hle : le ≤ 100000) (h1 : outN (nI le) (nI 0) (nI 100000) = 0) : Met l yX4_shareBySorting wsX4_shareBySorting { frames := 6, cells := 0, slots := 0, locals := 138 } (va_Pc [.ref (am 0), .int (nI k), .int (nI le)] (fun U => va_P (dC, dI) vwCl (wM cI cZ am sm fe ex gp gc dy n pe gr st dl wo q yc ya yd ys tp fu sh ro th) U.heap ∧ va_K (dC, dI) vwCl [(cI, .int), (cZ, .boolean)] U)) (va_Qi (fun r (u9 : (Nat → Int32) × (Nat → Int32) × (Nat → Int32) × (Nat → Int32)) => r = nI (shK sm fe ex gp gc gr st yc ya ys n q le k) ∧ (True)) (fun u9 t => va_P (dC, dI) vwCl (wM cI cZ am sm fe ex gp gc dy n pe gr st dl wo q yc ya yd ys u9.1 u9.2.1 u9.2.2.1 u9.2.2.2 (nI 0)) t.heap) (awM am)) 0 0 (awM am) := by
  refine Met.ofW (cc := cX4_shareBySorting) (maxL := 3) (ret := (some .int)) (by decide) rfl ?_
  intro p e s m args below meth c s₁ B hml hv
  obtain ⟨rfl, hP, hK⟩ := hv
  have hx := B.exec
  have hb := B.bytes
  have hr := B.returns
  have hts := atoms_spec (ws := wsX4_shareBySorting) B.pre
  have hown : s.vm.findClass RX4 = some m.cls := findClass_of_methodNamed B.named
  have hlocks := B.notSynchronized
  have hS : va_S (awM am) s.heap s.heap [] := va_S.rf
  have hl := lv_entry ([.ref (am 0), .int (nI k), .int (nI le)]) (n := 3) (Nat.le_of_ble_eq_true rfl)
  rw [lg_entry_eq]
  generalize (lg_sl ([.ref (am 0), .int (nI k), .int (nI le)]) ++ List.replicate (3 - (lg_sl ([.ref (am 0), .int (nI k), .int (nI le)])).length) Slot.unset).toArray = ls at hl ⊢
  have hl : lv_has ls 3 [(0, .ref (am 0)), (1, .int (nI k)), (2, .int (nI le))] := hl
  refine lv_aload_n hx hb dX4_shareBySorting_0 rfl (lv_at hl 0 rfl) ?_
  refine lv_iload_n hx hb dX4_shareBySorting_1 rfl (lv_at hl 1 rfl) ?_
  refine lv_iload_n hx hb dX4_shareBySorting_2 rfl (lv_at hl 2 rfl) ?_
  refine k_X4_shareNow_ok l (k := k) (le := le) (hn := hn) (hq := hq) (hk := hk) (hV := hV) (hL := hL) (hle := hle) (h1 := h1) hx hb hml hown hts hK hP gX4_shareBySorting_X4_shareNow ⟨Nat.le_of_ble_eq_true rfl, Nat.le_of_ble_eq_true rfl⟩ ⟨Nat.le_of_ble_eq_true rfl, Nat.le_of_ble_eq_true rfl⟩ hl.1 (Nat.le_of_ble_eq_true rfl) dX4_shareBySorting_3 hI (fun _ h => h) hS (fun u9 hu9 H locs hP hS _ => ?_)
  obtain ⟨tp3, fu3, sh3, ro3⟩ := u9
  have hP : va_P (dC, dI) vwCl (wM cI cZ am sm fe ex gp gc dy n pe gr st dl wo q yc ya yd ys tp3 fu3 sh3 ro3 (nI 0)) H := hP
  have hu_3 : True := hu9
  exact W.iret (v := nI (shK sm fe ex gp gc gr st yc ya ys n q le k)) hx hb hr (fun t ht hW => ⟨⟨nI (shK sm fe ex gp gc gr st yc ya ys n q le k), (tp3, fu3, sh3, ro3), rfl, ⟨rfl, trivial⟩, by (try dsimp only); rw [ht]; exact hP⟩, hS.F ht⟩) hS.2.2 dX4_shareBySorting_6
section
variable {p : Program} {e : Env} {R : Room} {s : State} {m : MethodId} {args : Array Value} {below : List Frame} {meth : Method} {c : Code} {H : Heap} {locs : List Loc} {cells slots : Nat} {Q : State → Prop} {cc : ByteArray} {pc : Nat} {ls : Array Slot} {rest : List Value} {own : String} {index nL : Nat} {Ts : List Cond} {H0 : Heap} {A0 : Nat → Prop}
theorem k_X4_shareBySorting_ok (l : Launch) {dC : Nat → ClassId} {dI : Nat → Nat → Nat} {cI cZ : ClassId} {am : Nat → Nat} {sm fe ex : Int32} {gp gc : Nat → Int32} {dy : Int32} {n : Nat} {pe gr st dl wo : Nat → Int32} {q : Nat} {yc ya yd ys tp fu sh ro : Nat → Int32} {th : Int32} {k : Nat} {le : Nat} (hn : n ≤ 24) (hq : q ≤ 100) (hk : k < n) (hV : claimV gp gc gr yc ya ys q n) (hL : leftV sm fe ex ya ys q) (hle : le ≤ 100000) (h1 : outN (nI le) (nI 0) (nI 100000) = 0) (hx : p.tables.exec = Jvm.exec) (hb : c.code = cc) (hml : c.maxLocals = nL) (hown : s.vm.findClass own = some m.cls) (hts : ∀ w ∈ Ts, w.before args s = true) (hK : va_K (dC, dI) vwCl [(cI, .int), (cZ, .boolean)] s) (hP : va_P (dC, dI) vwCl (wM cI cZ am sm fe ex gp gc dy n pe gr st dl wo q yc ya yd ys tp fu sh ro th) H) (hg9 : GoodIn Ts (wsV own index RX4 yX4_shareBySorting wsX4_shareBySorting)) (hR9 : 6 + 1 ≤ R.frames ∧ 8 + (3 + 11) + 138 ≤ R.locals) (hc9 : cells ≤ R.cells ∧ slots ≤ R.slots) (hl9 : ls.size = nL) (hw9 : (rest.map fun v => v.category).sum ≤ 8) (hdg : decode cc pc = .ok (.invokevirtual index, 3)) (hI : iwM am) (hA : ∀ x, awM am x → A0 x) (hS : va_S A0 H0 H locs) (kk : ∀ (u9 : (Nat → Int32) × (Nat → Int32) × (Nat → Int32) × (Nat → Int32)), (True) → ∀ (H1 : Heap) (locs1 : List Loc), va_P (dC, dI) vwCl (wM cI cZ am sm fe ex gp gc dy n pe gr st dl wo q yc ya yd ys u9.1 u9.2.1 u9.2.2.1 u9.2.2.2 (nI 0)) H1 → va_S A0 H0 H1 locs1 → (∀ q : Nat, q < H.size → ¬ awM am q → H1[q]? = H[q]?) → W p l e R s m args below meth c H1 locs1 cells slots Q (F0 m (pc + 3) ls (.int (nI (shK sm fe ex gp gc gr st yc ya ys n q le k)) :: rest))) : W p l e R s m args below meth c H locs cells slots Q (F0 m pc ls (.int (nI le) :: .int (nI k) :: .ref (am 0) :: rest)) := va_calli (va_runV (As := [.int (nI k), .int (nI le)]) (rest := rest) ⟨hx, hb, hml, hown, hts⟩ (c_X4_shareBySorting_ok (dC := dC) (dI := dI) (cI := cI) (cZ := cZ) (am := am) (sm := sm) (fe := fe) (ex := ex) (gp := gp) (gc := gc) (dy := dy) (n := n) (pe := pe) (gr := gr) (st := st) (dl := dl) (wo := wo) (q := q) (yc := yc) (ya := ya) (yd := yd) (ys := ys) (tp := tp) (fu := fu) (sh := sh) (ro := ro) (th := th) (k := k) (le := le) l hI hn hq hk hV hL hle h1) (cwV 2 hts hg9 rfl rfl rfl (by decide +kernel) hR9) ⟨fun a U g mk q => ⟨q.1, q.2.1, va_K.moved (u := U) (U := U.calling g mk a) (Vm.Alike.refl U.vm) q.2.2⟩, rM_0 hK hP, fun U hU hW => ⟨rfl, by rw [hU]; exact hP, va_K.moved hW.alike hK⟩⟩ rfl rfl hl9 rfl (lv_room hw9) hdg hc9) hS (fun q _ h => hA q h) hA (fun r u t H1 locs1 ht _ hu hB hz hk hS1 => by obtain ⟨h9, hu⟩ := hu; subst h9; exact kk u hu H1 locs1 (by rw [ht] at hB; exact hB) hS1 hk)
end
set_option maxHeartbeats 4000000 in
set_option maxRecDepth 100000 in
theorem c_X4_shareBySorting_1 (l : Launch) {dC : Nat → ClassId} {dI : Nat → Nat → Nat} {cI cZ : ClassId} {am : Nat → Nat} {sm fe ex : Int32} {gp gc : Nat → Int32} {dy : Int32} {n : Nat} {pe gr st dl wo : Nat → Int32} {q : Nat} {yc ya yd ys tp fu sh ro : Nat → Int32} {th : Int32} {x : Int32} {y : Int32} (hI : iwM am) (hn : n ≤ 24) (hk : ¬ vp_in x n) : Met l yX4_shareBySorting wsX4_shareBySorting { frames := 3, cells := 0, slots := 0, locals := 65 } (va_Pc [.ref (am 0), .int x, .int y] (fun U => va_P (dC, dI) vwCl (wM cI cZ am sm fe ex gp gc dy n pe gr st dl wo q yc ya yd ys tp fu sh ro th) U.heap ∧ va_K (dC, dI) vwCl [(cI, .int), (cZ, .boolean)] U)) (va_Qi (fun r (_ : Unit) => r = nI 0) (fun _ t => va_P (dC, dI) vwCl (wM cI cZ am sm fe ex gp gc dy n pe gr st dl wo q yc ya yd ys tp fu sh ro (nI 1)) t.heap) (awM am)) 0 0 (awM am) := by
  refine Met.ofW (cc := cX4_shareBySorting) (maxL := 3) (ret := (some .int)) (by decide) rfl ?_
  intro p e s m args below meth c s₁ B hml hv
  obtain ⟨rfl, hP, hK⟩ := hv
  have hx := B.exec
  have hb := B.bytes
  have hr := B.returns
  have hts := atoms_spec (ws := wsX4_shareBySorting) B.pre
  have hown : s.vm.findClass RX4 = some m.cls := findClass_of_methodNamed B.named
  have hlocks := B.notSynchronized
  have hS : va_S (awM am) s.heap s.heap [] := va_S.rf
  have hl := lv_entry ([.ref (am 0), .int x, .int y]) (n := 3) (Nat.le_of_ble_eq_true rfl)
  rw [lg_entry_eq]
  generalize (lg_sl ([.ref (am 0), .int x, .int y]) ++ List.replicate (3 - (lg_sl ([.ref (am 0), .int x, .int y])).length) Slot.unset).toArray = ls at hl ⊢
  have hl : lv_has ls 3 [(0, .ref (am 0)), (1, .int x), (2, .int y)] := hl
  refine lv_aload_n hx hb dX4_shareBySorting_0 rfl (lv_at hl 0 rfl) ?_
  refine lv_iload_n hx hb dX4_shareBySorting_1 rfl (lv_at hl 1 rfl) ?_
  refine lv_iload_n hx hb dX4_shareBySorting_2 rfl (lv_at hl 2 rfl) ?_
  refine k_X4_shareNow_1 l (x := x) (y := y) (hn := hn) (hk := hk) hx hb hml hown hts hK hP gX4_shareBySorting_X4_shareNow ⟨Nat.le_of_ble_eq_true rfl, Nat.le_of_ble_eq_true rfl⟩ ⟨Nat.le_of_ble_eq_true rfl, Nat.le_of_ble_eq_true rfl⟩ hl.1 (Nat.le_of_ble_eq_true rfl) dX4_shareBySorting_3 hI (fun _ h => h) hS (fun H locs hP hS _ => ?_)
  exact W.iret (v := nI 0) hx hb hr (fun t ht hW => ⟨⟨nI 0, (), rfl, rfl, by (try dsimp only); rw [ht]; exact hP⟩, hS.F ht⟩) hS.2.2 dX4_shareBySorting_6
section
variable {p : Program} {e : Env} {R : Room} {s : State} {m : MethodId} {args : Array Value} {below : List Frame} {meth : Method} {c : Code} {H : Heap} {locs : List Loc} {cells slots : Nat} {Q : State → Prop} {cc : ByteArray} {pc : Nat} {ls : Array Slot} {rest : List Value} {own : String} {index nL : Nat} {Ts : List Cond} {H0 : Heap} {A0 : Nat → Prop}
theorem k_X4_shareBySorting_1 (l : Launch) {dC : Nat → ClassId} {dI : Nat → Nat → Nat} {cI cZ : ClassId} {am : Nat → Nat} {sm fe ex : Int32} {gp gc : Nat → Int32} {dy : Int32} {n : Nat} {pe gr st dl wo : Nat → Int32} {q : Nat} {yc ya yd ys tp fu sh ro : Nat → Int32} {th : Int32} {x : Int32} {y : Int32} (hn : n ≤ 24) (hk : ¬ vp_in x n) (hx : p.tables.exec = Jvm.exec) (hb : c.code = cc) (hml : c.maxLocals = nL) (hown : s.vm.findClass own = some m.cls) (hts : ∀ w ∈ Ts, w.before args s = true) (hK : va_K (dC, dI) vwCl [(cI, .int), (cZ, .boolean)] s) (hP : va_P (dC, dI) vwCl (wM cI cZ am sm fe ex gp gc dy n pe gr st dl wo q yc ya yd ys tp fu sh ro th) H) (hg9 : GoodIn Ts (wsV own index RX4 yX4_shareBySorting wsX4_shareBySorting)) (hR9 : 3 + 1 ≤ R.frames ∧ 8 + (3 + 11) + 65 ≤ R.locals) (hc9 : cells ≤ R.cells ∧ slots ≤ R.slots) (hl9 : ls.size = nL) (hw9 : (rest.map fun v => v.category).sum ≤ 8) (hdg : decode cc pc = .ok (.invokevirtual index, 3)) (hI : iwM am) (hA : ∀ x, awM am x → A0 x) (hS : va_S A0 H0 H locs) (kk : ∀ (H1 : Heap) (locs1 : List Loc), va_P (dC, dI) vwCl (wM cI cZ am sm fe ex gp gc dy n pe gr st dl wo q yc ya yd ys tp fu sh ro (nI 1)) H1 → va_S A0 H0 H1 locs1 → (∀ q : Nat, q < H.size → ¬ awM am q → H1[q]? = H[q]?) → W p l e R s m args below meth c H1 locs1 cells slots Q (F0 m (pc + 3) ls (.int (nI 0) :: rest))) : W p l e R s m args below meth c H locs cells slots Q (F0 m pc ls (.int y :: .int x :: .ref (am 0) :: rest)) := va_calli (va_runV (As := [.int x, .int y]) (rest := rest) ⟨hx, hb, hml, hown, hts⟩ (c_X4_shareBySorting_1 (dC := dC) (dI := dI) (cI := cI) (cZ := cZ) (am := am) (sm := sm) (fe := fe) (ex := ex) (gp := gp) (gc := gc) (dy := dy) (n := n) (pe := pe) (gr := gr) (st := st) (dl := dl) (wo := wo) (q := q) (yc := yc) (ya := ya) (yd := yd) (ys := ys) (tp := tp) (fu := fu) (sh := sh) (ro := ro) (th := th) (x := x) (y := y) l hI hn hk) (cwV 2 hts hg9 rfl rfl rfl (by decide +kernel) hR9) ⟨fun a U g mk q => ⟨q.1, q.2.1, va_K.moved (u := U) (U := U.calling g mk a) (Vm.Alike.refl U.vm) q.2.2⟩, rM_0 hK hP, fun U hU hW => ⟨rfl, by rw [hU]; exact hP, va_K.moved hW.alike hK⟩⟩ rfl rfl hl9 rfl (lv_room hw9) hdg hc9) hS (fun q _ h => hA q h) hA (fun r u t H1 locs1 ht _ hu hB hz hk hS1 => by subst hu; exact kk H1 locs1 (by rw [ht] at hB; exact hB) hS1 hk)
end
set_option maxHeartbeats 4000000 in
set_option maxRecDepth 100000 in
theorem c_X4_shareBySorting_2 (l : Launch) {dC : Nat → ClassId} {dI : Nat → Nat → Nat} {cI cZ : ClassId} {am : Nat → Nat} {sm fe ex : Int32} {gp gc : Nat → Int32} {dy : Int32} {n : Nat} {pe gr st dl wo : Nat → Int32} {q : Nat} {yc ya yd ys tp fu sh ro : Nat → Int32} {th : Int32} {k : Nat} {y : Int32} (hI : iwM am) (hn : n ≤ 24) (hk : k < n) (h1 : ¬ outN y (nI 0) (nI 100000) = 0) : Met l yX4_shareBySorting wsX4_shareBySorting { frames := 3, cells := 0, slots := 0, locals := 65 } (va_Pc [.ref (am 0), .int (nI k), .int y] (fun U => va_P (dC, dI) vwCl (wM cI cZ am sm fe ex gp gc dy n pe gr st dl wo q yc ya yd ys tp fu sh ro th) U.heap ∧ va_K (dC, dI) vwCl [(cI, .int), (cZ, .boolean)] U)) (va_Qi (fun r (_ : Unit) => r = nI 0) (fun _ t => va_P (dC, dI) vwCl (wM cI cZ am sm fe ex gp gc dy n pe gr st dl wo q yc ya yd ys tp fu sh ro (nI 2)) t.heap) (awM am)) 0 0 (awM am) := by
  refine Met.ofW (cc := cX4_shareBySorting) (maxL := 3) (ret := (some .int)) (by decide) rfl ?_
  intro p e s m args below meth c s₁ B hml hv
  obtain ⟨rfl, hP, hK⟩ := hv
  have hx := B.exec
  have hb := B.bytes
  have hr := B.returns
  have hts := atoms_spec (ws := wsX4_shareBySorting) B.pre
  have hown : s.vm.findClass RX4 = some m.cls := findClass_of_methodNamed B.named
  have hlocks := B.notSynchronized
  have hS : va_S (awM am) s.heap s.heap [] := va_S.rf
  have hl := lv_entry ([.ref (am 0), .int (nI k), .int y]) (n := 3) (Nat.le_of_ble_eq_true rfl)
  rw [lg_entry_eq]
  generalize (lg_sl ([.ref (am 0), .int (nI k), .int y]) ++ List.replicate (3 - (lg_sl ([.ref (am 0), .int (nI k), .int y])).length) Slot.unset).toArray = ls at hl ⊢
  have hl : lv_has ls 3 [(0, .ref (am 0)), (1, .int (nI k)), (2, .int y)] := hl
  refine lv_aload_n hx hb dX4_shareBySorting_0 rfl (lv_at hl 0 rfl) ?_
  refine lv_iload_n hx hb dX4_shareBySorting_1 rfl (lv_at hl 1 rfl) ?_
  refine lv_iload_n hx hb dX4_shareBySorting_2 rfl (lv_at hl 2 rfl) ?_
  refine k_X4_shareNow_2 l (k := k) (y := y) (hn := hn) (hk := hk) (h1 := h1) hx hb hml hown hts hK hP gX4_shareBySorting_X4_shareNow ⟨Nat.le_of_ble_eq_true rfl, Nat.le_of_ble_eq_true rfl⟩ ⟨Nat.le_of_ble_eq_true rfl, Nat.le_of_ble_eq_true rfl⟩ hl.1 (Nat.le_of_ble_eq_true rfl) dX4_shareBySorting_3 hI (fun _ h => h) hS (fun H locs hP hS _ => ?_)
  exact W.iret (v := nI 0) hx hb hr (fun t ht hW => ⟨⟨nI 0, (), rfl, rfl, by (try dsimp only); rw [ht]; exact hP⟩, hS.F ht⟩) hS.2.2 dX4_shareBySorting_6
section
variable {p : Program} {e : Env} {R : Room} {s : State} {m : MethodId} {args : Array Value} {below : List Frame} {meth : Method} {c : Code} {H : Heap} {locs : List Loc} {cells slots : Nat} {Q : State → Prop} {cc : ByteArray} {pc : Nat} {ls : Array Slot} {rest : List Value} {own : String} {index nL : Nat} {Ts : List Cond} {H0 : Heap} {A0 : Nat → Prop}
theorem k_X4_shareBySorting_2 (l : Launch) {dC : Nat → ClassId} {dI : Nat → Nat → Nat} {cI cZ : ClassId} {am : Nat → Nat} {sm fe ex : Int32} {gp gc : Nat → Int32} {dy : Int32} {n : Nat} {pe gr st dl wo : Nat → Int32} {q : Nat} {yc ya yd ys tp fu sh ro : Nat → Int32} {th : Int32} {k : Nat} {y : Int32} (hn : n ≤ 24) (hk : k < n) (h1 : ¬ outN y (nI 0) (nI 100000) = 0) (hx : p.tables.exec = Jvm.exec) (hb : c.code = cc) (hml : c.maxLocals = nL) (hown : s.vm.findClass own = some m.cls) (hts : ∀ w ∈ Ts, w.before args s = true) (hK : va_K (dC, dI) vwCl [(cI, .int), (cZ, .boolean)] s) (hP : va_P (dC, dI) vwCl (wM cI cZ am sm fe ex gp gc dy n pe gr st dl wo q yc ya yd ys tp fu sh ro th) H) (hg9 : GoodIn Ts (wsV own index RX4 yX4_shareBySorting wsX4_shareBySorting)) (hR9 : 3 + 1 ≤ R.frames ∧ 8 + (3 + 11) + 65 ≤ R.locals) (hc9 : cells ≤ R.cells ∧ slots ≤ R.slots) (hl9 : ls.size = nL) (hw9 : (rest.map fun v => v.category).sum ≤ 8) (hdg : decode cc pc = .ok (.invokevirtual index, 3)) (hI : iwM am) (hA : ∀ x, awM am x → A0 x) (hS : va_S A0 H0 H locs) (kk : ∀ (H1 : Heap) (locs1 : List Loc), va_P (dC, dI) vwCl (wM cI cZ am sm fe ex gp gc dy n pe gr st dl wo q yc ya yd ys tp fu sh ro (nI 2)) H1 → va_S A0 H0 H1 locs1 → (∀ q : Nat, q < H.size → ¬ awM am q → H1[q]? = H[q]?) → W p l e R s m args below meth c H1 locs1 cells slots Q (F0 m (pc + 3) ls (.int (nI 0) :: rest))) : W p l e R s m args below meth c H locs cells slots Q (F0 m pc ls (.int y :: .int (nI k) :: .ref (am 0) :: rest)) := va_calli (va_runV (As := [.int (nI k), .int y]) (rest := rest) ⟨hx, hb, hml, hown, hts⟩ (c_X4_shareBySorting_2 (dC := dC) (dI := dI) (cI := cI) (cZ := cZ) (am := am) (sm := sm) (fe := fe) (ex := ex) (gp := gp) (gc := gc) (dy := dy) (n := n) (pe := pe) (gr := gr) (st := st) (dl := dl) (wo := wo) (q := q) (yc := yc) (ya := ya) (yd := yd) (ys := ys) (tp := tp) (fu := fu) (sh := sh) (ro := ro) (th := th) (k := k) (y := y) l hI hn hk h1) (cwV 2 hts hg9 rfl rfl rfl (by decide +kernel) hR9) ⟨fun a U g mk q => ⟨q.1, q.2.1, va_K.moved (u := U) (U := U.calling g mk a) (Vm.Alike.refl U.vm) q.2.2⟩, rM_0 hK hP, fun U hU hW => ⟨rfl, by rw [hU]; exact hP, va_K.moved hW.alike hK⟩⟩ rfl rfl hl9 rfl (lv_room hw9) hdg hc9) hS (fun q _ h => hA q h) hA (fun r u t H1 locs1 ht _ hu hB hz hk hS1 => by subst hu; exact kk H1 locs1 (by rw [ht] at hB; exact hB) hS1 hk)
end
